/** Promises 12 to 17: bars, piece, change, plan, bar, rest. */
public final class BarsTest {
    public static void main(String[] args) {
        bars();
        piece();
        change();
        cutsBetweenPieces();
        fewestBars();
        leastNumbers();
        onePieceABar();
        rest();
        Check.end();
    }

    private static LayerQuantities cutting(int length, int cut, int... pieces) {
        LayerQuantities x = new LayerQuantities();
        x.bars(length, cut);
        for (int i = 0; i < pieces.length; i++) {
            Check.same("piece", x.piece(pieces[i]), i);
        }
        return x;
    }

    private static void due(String what, LayerQuantities x, int bars, int... barOf) {
        Check.same(what + ": plan", x.plan(), bars);
        for (int i = 0; i < barOf.length; i++) {
            Check.same(what + ": bar of " + i, x.bar(i), barOf[i]);
        }
    }

    private static void bars() {
        LayerQuantities x = new LayerQuantities();
        int[][] bad = {{0, 0}, {10001, 0}, {1, -1}, {1, 101}, {-1, 0}, {Integer.MAX_VALUE, 0},
            {1, Integer.MIN_VALUE}};
        for (int[] b : bad) {
            Check.badArgument("bars", () -> x.bars(b[0], b[1]));
        }
        x.bars(1, 100);
        Check.same("a piece of 1", x.piece(1), 0);
        x.bars(10000, 100);
        x.piece(600);
        x.piece(700);
        Check.badState("a piece is longer", () -> x.bars(699, 0));
        Check.badState("a piece is longer", () -> x.bars(1, 0));
        Check.badArgument("argument before state", () -> x.bars(699, 101));
        Check.badArgument("argument before state", () -> x.bars(0, 0));
        due("nothing changed", x, 1, 0, 0, 0);
        Check.same("nothing changed", x.rest(0), 10000 - 1301 - 200);
        x.bars(700, 0);
        due("as long as the longest", x, 2, 0, 0, 1);
        Check.same("rest", x.rest(0), 99);
        x.change(2, 5);
        x.bars(600, 0);
        due("shorter after a change", x, 2, 0, 1, 0);
    }

    private static void piece() {
        LayerQuantities x = cutting(50, 0);
        int[] bad = {0, -1, 51, 10000, 10001, Integer.MIN_VALUE, Integer.MAX_VALUE};
        for (int b : bad) {
            Check.badArgument("piece " + b, () -> x.piece(b));
        }
        Check.same("none came", x.plan(), 0);
        for (int i = 0; i < 10; i++) {
            Check.same("piece", x.piece(i % 2 == 0 ? 1 : 50), i);
        }
        Check.badState("a piece too many", () -> x.piece(1));
        Check.badArgument("argument before state", () -> x.piece(51));
        Check.badArgument("argument before state", () -> x.piece(0));
        due("small and long", x, 6, 0, 1, 0, 2, 0, 3, 0, 4, 0, 5);
    }

    private static void change() {
        LayerQuantities x = cutting(50, 0, 10, 50);
        int[][] bad = {{-1, 1}, {2, 1}, {0, 0}, {0, 51}, {1, -1}, {Integer.MAX_VALUE, 1},
            {0, Integer.MAX_VALUE}};
        for (int[] b : bad) {
            Check.badArgument("change", () -> x.change(b[0], b[1]));
        }
        due("as it was", x, 2, 0, 1);
        Check.same("what it had", x.change(1, 40), 50);
        due("now shorter", x, 1, 0, 0);
        Check.same("what it had", x.change(1, 41), 40);
        due("now longer", x, 2, 0, 1);
        Check.same("what it had", x.change(0, 50), 10);
        Check.same("what it had", x.change(1, 41), 41);
        due("two long ones", x, 2, 0, 1);
    }

    private static void cutsBetweenPieces() {
        due("no cut at the ends", cutting(100, 100, 100, 100), 2, 0, 1);
        due("one cut for two", cutting(100, 10, 45, 45), 1, 0, 0);
        due("too long for a cut", cutting(100, 10, 46, 45), 2, 0, 1);
        due("two cuts for three", cutting(100, 5, 30, 30, 30), 1, 0, 0, 0);
        due("too long for two cuts", cutting(100, 5, 30, 30, 31), 2, 0, 0, 1);
        due("a cut longer than pieces", cutting(10, 100, 1, 1), 2, 0, 1);
        due("nine cuts", cutting(100, 10, 1, 1, 1, 1, 1, 1, 1, 1, 1, 1), 1,
                0, 0, 0, 0, 0, 0, 0, 0, 0, 0);
        due("nine cuts and one more", cutting(99, 10, 1, 1, 1, 1, 1, 1, 1, 1, 1, 1), 2,
                0, 0, 0, 0, 0, 0, 0, 0, 0, 1);
    }

    private static void fewestBars() {
        due("no first fit", cutting(10, 0, 6, 6, 4, 4, 5, 5), 3, 0, 1, 0, 1, 2, 2);
        due("smallest first", cutting(10, 0, 3, 3, 4, 6, 7, 7), 3, 0, 1, 2, 2, 0, 1);
        due("all full", cutting(100, 1, 55, 44, 33, 66, 22, 77, 11, 49, 50, 88), 5,
                0, 0, 1, 1, 2, 2, 3, 4, 4, 3);
        due("threes", cutting(12, 0, 5, 4, 3, 5, 4, 3, 5, 4, 3), 3, 0, 0, 0, 1, 1, 1, 2, 2, 2);
    }

    private static void leastNumbers() {
        due("together as long as it may be", cutting(10, 0, 2, 2, 2, 2, 8), 2, 0, 0, 0, 0, 1);
        due("apart where it must be", cutting(10, 0, 2, 2, 8, 8), 2, 0, 1, 0, 1);
        due("a later piece back in bar 0", cutting(10, 0, 5, 6, 7, 3), 3, 0, 1, 2, 0);
        due("of several", cutting(10, 0, 4, 4, 6, 2, 4), 2, 0, 0, 1, 0, 1);
        due("the first that differs decides", cutting(10, 0, 5, 3, 3, 4, 5), 2, 0, 1, 1, 1, 0);
    }

    private static void onePieceABar() {
        due("all long", cutting(10, 0, 6, 7, 8, 9, 10, 6, 7, 8, 9, 10), 10,
                0, 1, 2, 3, 4, 5, 6, 7, 8, 9);
        due("a single one", cutting(10000, 0, 10000), 1, 0);
    }

    private static void rest() {
        LayerQuantities x = cutting(100, 7, 30, 40, 50);
        due("plan", x, 2, 0, 0, 1);
        Check.same("two and a cut", x.rest(0), 23);
        Check.same("one without a cut", x.rest(1), 50);
        int[] bad = {-1, 2, 9, 10, Integer.MIN_VALUE, Integer.MAX_VALUE};
        for (int b : bad) {
            Check.badArgument("rest " + b, () -> x.rest(b));
        }
        Check.badArgument("bar", () -> x.bar(3));
        Check.badArgument("bar", () -> x.bar(-1));
        Check.badArgument("bar", () -> x.bar(Integer.MAX_VALUE));
        x.bars(134, 7);
        Check.same("all in one", x.rest(0), 0);
        Check.badArgument("only one bar", () -> x.rest(1));
    }
}
