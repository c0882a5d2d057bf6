/** Promises 8 to 11: pack, bought, cents of a stuff, cents of all stuffs. */
public final class PackagesTest {
    public static void main(String[] args) {
        pack();
        bought();
        nothingToBuy();
        nothingNeeded();
        atMostSixty();
        fewestOfTheCheapest();
        mostOfTheFirst();
        followsTheNeed();
        centsOfAll();
        Check.end();
    }

    /** A new object whose stuff 0 needs so much (1 .. 500000), with packages of much and cents. */
    private static LayerQuantities needing(int need, int[]... packs) {
        LayerQuantities x = new LayerQuantities();
        for (int left = need, wall = 0; left > 0; wall++) {
            int thickness = Math.min(left, 500);
            int length = Math.min(left / thickness, 1000);
            x.wall(length, 1);
            x.layer(wall, 0, thickness);
            left -= thickness * length;
        }
        Check.same("need", x.need(0), need);
        for (int[] p : packs) {
            x.pack(0, p[0], p[1]);
        }
        return x;
    }

    private static void due(String what, LayerQuantities x, long cents, int... counts) {
        Check.same(what + ": cents", x.cents(0), cents);
        for (int i = 0; i < counts.length; i++) {
            Check.same(what + ": of " + i, x.bought(0, i), counts[i]);
        }
    }

    private static void pack() {
        LayerQuantities x = new LayerQuantities();
        int[][] bad = {{-1, 1, 1}, {10, 1, 1}, {0, 0, 1}, {0, 1000000001, 1}, {0, 1, 0},
            {0, 1, 100001}, {0, Integer.MIN_VALUE, 1}, {0, 1, Integer.MAX_VALUE}};
        for (int[] b : bad) {
            Check.badArgument("pack", () -> x.pack(b[0], b[1], b[2]));
        }
        for (int i = 0; i < 4; i++) {
            Check.same("pack", x.pack(0, i % 2 == 0 ? 1 : 1000000000, i < 2 ? 1 : 100000), i);
            Check.same("pack of the last stuff", x.pack(9, 1, 1), i);
        }
        Check.badState("a package too many", () -> x.pack(0, 1, 1));
        Check.badArgument("argument before state", () -> x.pack(0, 0, 1));
        Check.badArgument("argument before state", () -> x.pack(9, 1, 100001));
        Check.same("another stuff's first", x.pack(1, 1, 1), 0);
    }

    private static void bought() {
        LayerQuantities x = needing(414, new int[] {100, 30});
        due("one kind", x, 150, 5);
        Check.badArgument("no such package", () -> x.bought(0, 1));
        Check.badArgument("no such package", () -> x.bought(0, -1));
        Check.badArgument("no such package of this stuff", () -> x.bought(1, 0));
        Check.badArgument("no such stuff", () -> x.bought(10, 0));
        Check.badArgument("no such stuff", () -> x.bought(-1, 0));
        Check.badArgument("no such stuff", () -> x.cents(-1));
        Check.badArgument("no such stuff", () -> x.cents(10));
        x.pack(0, 50, 14);
        due("a cheaper one", x, 126, 0, 9);
        x.pack(0, 7, 2);
        due("a smaller one", x, 116, 0, 8, 2);
        x.pack(0, 414, 117);
        due("one that is too dear", x, 116, 0, 8, 2, 0);
        Check.badArgument("no package 4", () -> x.bought(0, 4));
    }

    private static void nothingToBuy() {
        LayerQuantities x = needing(1);
        due("no package", x, LayerQuantities.NONE);
        Check.badArgument("no package", () -> x.bought(0, 0));
        x.pack(0, 1, 100000);
        due("enough", x, 100000, 1);
        LayerQuantities y = needing(61, new int[] {1, 1});
        due("61 would do", y, LayerQuantities.NONE, LayerQuantities.NONE);
        y.pack(0, 1, 3);
        due("of no kind", y, LayerQuantities.NONE, LayerQuantities.NONE, LayerQuantities.NONE);
        y.pack(0, 2, 2);
        due("with bigger ones", y, 61, 1, 0, 30);
    }

    private static void nothingNeeded() {
        LayerQuantities x = needing(0, new int[] {5, 5}, new int[] {3, 1});
        due("nothing", x, 0, 0, 0);
        x.wall(3, 3);
        x.opening(0, 3, 3);
        x.layer(0, 0, 4);
        due("layers on no area", x, 0, 0, 0);
        Check.same("all", x.cents(), 0);
    }

    private static void atMostSixty() {
        due("just 60", needing(60, new int[] {1, 1}), 60, 60);
        due("the cheap ones are too many", needing(120, new int[] {1, 1}, new int[] {3, 100}),
                30 + 30 * 100, 30, 30);
        due("60 of the biggest", needing(180, new int[] {1, 1}, new int[] {3, 100}),
                6000, 0, 60);
        due("one more", needing(181, new int[] {1, 1}, new int[] {3, 100}),
                LayerQuantities.NONE, LayerQuantities.NONE, LayerQuantities.NONE);
        due("four kinds", needing(239, new int[] {1, 1}, new int[] {2, 1000}, new int[] {3, 3000},
                new int[] {4, 6000}), 59 * 6000 + 3000, 0, 0, 1, 59);
    }

    private static void fewestOfTheCheapest() {
        due("one rather than two", needing(10, new int[] {5, 5}, new int[] {10, 10}), 10, 0, 1);
        due("more than needed costs the same", needing(9, new int[] {3, 4}, new int[] {20, 12}),
                12, 0, 1);
        due("price before count", needing(10, new int[] {1, 1}, new int[] {10, 11}), 10, 10, 0);
        due("two rather than three", needing(12, new int[] {4, 4}, new int[] {6, 6},
                new int[] {3, 3}), 12, 0, 2, 0);
    }

    private static void mostOfTheFirst() {
        due("equal packages", needing(10, new int[] {5, 5}, new int[] {5, 5}, new int[] {5, 5}),
                10, 2, 0, 0);
        due("less in the first", needing(10, new int[] {4, 5}, new int[] {6, 5}), 10, 1, 1);
        due("of a sum", needing(20, new int[] {1, 9}, new int[] {5, 5}, new int[] {10, 10},
                new int[] {15, 15}), 20, 0, 1, 0, 1);
        due("the first of three", needing(11, new int[] {3, 7}, new int[] {4, 7},
                new int[] {5, 7}), 21, 2, 0, 1);
        due("all kinds", needing(14, new int[] {2, 7}, new int[] {3, 7}, new int[] {4, 7},
                new int[] {5, 7}), 21, 0, 0, 1, 2);
        due("the later, where it needs be", needing(13, new int[] {3, 7}, new int[] {4, 7},
                new int[] {5, 7}, new int[] {5, 7}), 21, 1, 0, 2, 0);
    }

    private static void followsTheNeed() {
        LayerQuantities x = needing(100, new int[] {100, 10});
        due("at first", x, 10, 1);
        x.waste(0, 1);
        due("with waste", x, 20, 2);
        x.waste(0, 0);
        due("without", x, 10, 1);
        x.wall(5, 5);
        x.layer(1, 0, 1);
        due("with a layer", x, 20, 2);
        x.opening(1, 5, 5);
        due("with an opening", x, 10, 1);
        x.pack(0, 50, 4);
        due("with a package", x, 8, 0, 2);
    }

    private static void centsOfAll() {
        LayerQuantities x = new LayerQuantities();
        x.wall(1, 1);
        for (int stuff = 0; stuff < 8; stuff++) {
            x.layer(0, stuff, stuff + 1);
            Check.same("one without a package", x.cents(), LayerQuantities.NONE);
            x.pack(stuff, 1, 10);
            Check.same("all", x.cents(), 10 * (stuff + 1) * (stuff + 2) / 2);
        }
        x.wall(1, 1);
        x.layer(1, 9, 61);
        x.pack(9, 1, 1);
        Check.same("one with too small packages", x.cents(), LayerQuantities.NONE);
        Check.same("that one", x.cents(9), LayerQuantities.NONE);
        Check.same("the first", x.cents(0), 10);
        x.opening(1, 1, 1);
        Check.same("it needs nothing now", x.cents(), 360);
    }
}
