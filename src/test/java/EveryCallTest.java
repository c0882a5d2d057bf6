/**
 * For all calls: "Of several exceptions the one named first is thrown; a call that throws changes
 * nothing." Every call with all numbers at and beyond its bounds, on an empty, an ordinary and a
 * full object.
 */
public final class EveryCallTest {
    private static final int[] WALLS = {Integer.MIN_VALUE, -1, 0, 2, 11, 12, Integer.MAX_VALUE};
    private static final int[] SIDES = {-1, 0, 1, 1000, 1001};
    private static final int[] STUFFS = {-1, 0, 9, 10};
    private static final int[] THICKNESSES = {0, 1, 500, 501};
    private static final int[] HUNDREDTHS = {-1, 0, 100, 101};
    private static final int[] WHATS = {-1, 0, 1, 2, 3};
    private static final int[] MUCHES = {0, 1, 1000000000, 1000000001};
    private static final int[] CENTS = {0, 1, 100000, 100001};
    private static final int[] PACKS = {-1, 0, 1, 3, 4};
    private static final int[] LENGTHS = {-1, 0, 1, 299, 300, 301, 10000, 10001};
    private static final int[] CUTS = {-1, 0, 100, 101};
    private static final int[] PIECES = {Integer.MIN_VALUE, -1, 0, 3, 9, 10, Integer.MAX_VALUE};

    public static void main(String[] args) {
        edges(new Sentence("an empty object"));
        edges(ordinary());
        edges(full());
        Check.end();
    }

    private static Sentence ordinary() {
        Sentence s = new Sentence("an ordinary object");
        s.gives(0, "wall", 20, 30);
        s.gives(1, "wall", 1, 1);
        s.gives(580, "opening", 0, 4, 5);
        s.gives(1, "layer", 0, 0, 7);
        s.gives(1, "layer", 1, 9, 3);
        s.gives(0, "waste", 0, 11);
        s.gives(0, "pack", 0, 100, 30);
        s.gives(1, "pack", 0, 90, 28);
        s.takes("bars", 300, 2);
        s.gives(0, "piece", 200);
        s.gives(1, "piece", 300);
        s.gives(2, "piece", 98);
        return s;
    }

    private static Sentence full() {
        Sentence s = new Sentence("a full object");
        for (int wall = 0; wall < 12; wall++) {
            s.gives(wall, "wall", 2, 3 + wall);
            for (int i = 1; i <= 6; i++) {
                s.gives(6 + 2 * wall - i, "opening", wall, 1, 1);
            }
            for (int i = 1; i <= 8; i++) {
                s.gives(i, "layer", wall, (wall + i) % 10, wall + i);
            }
        }
        for (int stuff = 0; stuff < 10; stuff++) {
            s.gives(0, "waste", stuff, 10 * stuff);
            for (int i = 0; i < 4; i++) {
                s.gives(i, "pack", stuff, 50 * i + 20 * stuff + 30, 9 * i + 2 * stuff + 5);
            }
        }
        s.takes("bars", 300, 3);
        for (int i = 0; i < 10; i++) {
            s.gives(i, "piece", 300 - 25 * i);
        }
        return s;
    }

    private static void edges(Sentence s) {
        edgesOfWalls(s);
        edgesOfStuffs(s);
        edgesOfBars(s);
    }

    private static void edgesOfWalls(Sentence s) {
        two(s, "wall", SIDES, SIDES);
        three(s, "opening", WALLS, SIDES, SIDES);
        three(s, "layer", WALLS, STUFFS, THICKNESSES);
        two(s, "told", WALLS, WHATS);
    }

    private static void edgesOfStuffs(Sentence s) {
        two(s, "waste", STUFFS, HUNDREDTHS);
        one(s, "need", STUFFS);
        three(s, "pack", STUFFS, MUCHES, CENTS);
        two(s, "bought", STUFFS, PACKS);
        one(s, "cents", STUFFS);
        s.asTheModel("cents");
    }

    private static void edgesOfBars(Sentence s) {
        two(s, "bars", LENGTHS, CUTS);
        one(s, "piece", LENGTHS);
        two(s, "change", PIECES, LENGTHS);
        s.asTheModel("plan");
        one(s, "bar", PIECES);
        one(s, "rest", PIECES);
    }

    private static void one(Sentence s, String name, int[] as) {
        for (int a : as) {
            s.asTheModel(name, a);
        }
    }

    private static void two(Sentence s, String name, int[] as, int[] bs) {
        for (int a : as) {
            for (int b : bs) {
                s.asTheModel(name, a, b);
            }
        }
    }

    private static void three(Sentence s, String name, int[] as, int[] bs, int[] cs) {
        for (int a : as) {
            for (int b : bs) {
                for (int c : cs) {
                    s.asTheModel(name, a, b, c);
                }
            }
        }
    }
}
