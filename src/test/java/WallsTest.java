/** Promises 1 to 7: a new object, wall, opening, layer, waste, told, need. */
public final class WallsTest {
    public static void main(String[] args) {
        newObject();
        wall();
        opening();
        openingWithoutArea();
        layer();
        waste();
        told();
        need();
        needOfAllThereMayBe();
        wrongCallsChangeNothing();
        Check.end();
    }

    private static void newObject() {
        LayerQuantities x = new LayerQuantities();
        Check.badArgument("no wall to tell of", () -> x.told(0, 0));
        Check.badArgument("no wall to open", () -> x.opening(0, 1, 1));
        Check.badArgument("no wall to cover", () -> x.layer(0, 0, 1));
        Check.badArgument("no package", () -> x.bought(0, 0));
        Check.badArgument("no piece", () -> x.bar(0));
        Check.badArgument("no piece to change", () -> x.change(0, 1));
        Check.badArgument("no bar", () -> x.rest(0));
        Check.same("plan of nothing", x.plan(), 0);
        Check.same("cents of nothing", x.cents(), 0);
        for (int stuff = 0; stuff < 10; stuff++) {
            Check.same("need at first", x.need(stuff), 0);
            Check.same("cents at first", x.cents(stuff), 0);
            Check.same("waste at first", x.waste(stuff, 0), 0);
        }
        Check.same("a piece as long as the first bars", x.piece(10000), 0);
        Check.same("its rest", x.rest(0), 0);
        Check.same("a second piece", x.change(0, 5000), 10000);
        Check.same("a piece without a cut", x.piece(5000), 1);
        Check.same("both in one bar", x.plan(), 1);
    }

    private static void wall() {
        LayerQuantities x = new LayerQuantities();
        int[][] bad = {{0, 1}, {1, 0}, {1001, 1}, {1, 1001}, {-1, 5}, {5, -1},
            {Integer.MIN_VALUE, 1}, {1, Integer.MAX_VALUE}};
        for (int[] b : bad) {
            Check.badArgument("wall " + b[0] + " " + b[1], () -> x.wall(b[0], b[1]));
        }
        for (int i = 0; i < 12; i++) {
            Check.same("wall", x.wall(i % 2 == 0 ? 1 : 1000, i % 3 == 0 ? 1000 : 1), i);
        }
        Check.badState("a wall too many", () -> x.wall(1, 1));
        Check.badArgument("argument before state", () -> x.wall(0, 1));
        Check.badArgument("argument before state", () -> x.wall(1, 1001));
        Check.same("wall 0", x.told(0, 0), 1000);
        Check.same("wall 1", x.told(1, 0), 1000);
        Check.same("wall 2", x.told(2, 0), 1);
        Check.same("wall 3", x.told(3, 0), 1000000);
        Check.badArgument("wall 12", () -> x.told(12, 0));
    }

    private static void opening() {
        LayerQuantities x = new LayerQuantities();
        x.wall(20, 10);
        x.wall(1000, 1000);
        int[][] bad = {{-1, 1, 1}, {2, 1, 1}, {0, 0, 1}, {0, 1, 0}, {0, 1001, 1}, {0, 1, 1001},
            {Integer.MAX_VALUE, 1, 1}, {0, Integer.MIN_VALUE, 1}, {0, 1, Integer.MAX_VALUE}};
        for (int[] b : bad) {
            Check.badArgument("opening", () -> x.opening(b[0], b[1], b[2]));
        }
        for (int i = 1; i <= 6; i++) {
            Check.same("opening", x.opening(0, 3, 2), 200 - 6 * i);
        }
        Check.badState("an opening too many", () -> x.opening(0, 1, 1));
        Check.badArgument("argument before state", () -> x.opening(0, 0, 1));
        Check.badArgument("argument before state", () -> x.opening(0, 1, 1001));
        Check.same("area then", x.told(0, 0), 164);
        Check.same("openings then", x.told(0, 2), 6);
        Check.same("another wall's openings", x.told(1, 2), 0);
        Check.same("a wall that is an opening", x.opening(1, 1000, 1000), 0);
    }

    private static void openingWithoutArea() {
        LayerQuantities x = new LayerQuantities();
        x.wall(10, 5);
        Check.badState("more than the area", () -> x.opening(0, 51, 1));
        Check.badState("much more than the area", () -> x.opening(0, 1000, 1000));
        Check.same("nothing opened", x.told(0, 2), 0);
        Check.same("the area as it was", x.told(0, 0), 50);
        Check.same("wider than the wall", x.opening(0, 49, 1), 1);
        Check.badState("one too much", () -> x.opening(0, 2, 1));
        Check.same("the last bit", x.opening(0, 1, 1), 0);
        Check.badState("nothing left", () -> x.opening(0, 1, 1));
        Check.same("openings", x.told(0, 2), 2);
    }

    private static void layer() {
        LayerQuantities x = new LayerQuantities();
        x.wall(2, 3);
        x.wall(1, 1);
        int[][] bad = {{-1, 0, 1}, {2, 0, 1}, {0, -1, 1}, {0, 10, 1}, {0, 0, 0}, {0, 0, 501},
            {Integer.MIN_VALUE, 0, 1}, {0, Integer.MAX_VALUE, 1}, {0, 0, -1}};
        for (int[] b : bad) {
            Check.badArgument("layer", () -> x.layer(b[0], b[1], b[2]));
        }
        for (int i = 1; i <= 8; i++) {
            Check.same("layer", x.layer(0, i % 2 == 0 ? 9 : 0, i), i);
        }
        Check.badState("a layer too many", () -> x.layer(0, 0, 1));
        Check.badArgument("argument before state", () -> x.layer(0, 10, 1));
        Check.badArgument("argument before state", () -> x.layer(0, 0, 501));
        Check.same("thickness", x.told(0, 1), 36);
        Check.same("odd ones", x.need(0), 6 * 16);
        Check.same("even ones", x.need(9), 6 * 20);
        Check.same("another wall's first", x.layer(1, 5, 500), 1);
        Check.same("its need", x.need(5), 500);
    }

    private static void waste() {
        LayerQuantities x = new LayerQuantities();
        int[][] bad = {{-1, 0}, {10, 0}, {0, -1}, {0, 101}, {Integer.MAX_VALUE, 5},
            {5, Integer.MIN_VALUE}};
        for (int[] b : bad) {
            Check.badArgument("waste", () -> x.waste(b[0], b[1]));
        }
        Check.same("at first", x.waste(0, 100), 0);
        Check.same("then", x.waste(0, 7), 100);
        Check.same("the last stuff's own", x.waste(9, 1), 0);
        Check.same("and back", x.waste(0, 0), 7);
    }

    private static void told() {
        LayerQuantities x = new LayerQuantities();
        x.wall(7, 9);
        x.opening(0, 2, 2);
        x.layer(0, 3, 11);
        x.layer(0, 4, 22);
        Check.same("area", x.told(0, 0), 59);
        Check.same("thickness", x.told(0, 1), 33);
        Check.same("openings", x.told(0, 2), 1);
        int[][] bad = {{0, -1}, {0, 3}, {-1, 0}, {1, 0}, {1, 2}, {0, Integer.MAX_VALUE},
            {Integer.MIN_VALUE, 1}};
        for (int[] b : bad) {
            Check.badArgument("told", () -> x.told(b[0], b[1]));
        }
    }

    private static void need() {
        LayerQuantities x = new LayerQuantities();
        Check.badArgument("no stuff", () -> x.need(-1));
        Check.badArgument("no stuff", () -> x.need(10));
        x.wall(1, 1);
        x.layer(0, 2, 1);
        int[] wastes = {0, 1, 50, 99, 100};
        int[] needs = {1, 2, 2, 2, 2};
        for (int i = 0; i < wastes.length; i++) {
            x.waste(2, wastes[i]);
            Check.same("need of 1 with " + wastes[i], x.need(2), needs[i]);
        }
        x.wall(33, 1);
        x.layer(1, 2, 3);
        x.waste(2, 7);
        Check.same("waste comes to the sum", x.need(2), 107);
        x.waste(2, 8);
        x.layer(1, 2, 1);
        Check.same("rounded up once", x.need(2), 144);
        x.opening(1, 3, 1);
        Check.same("a later opening takes of earlier layers", x.need(2), 131);
        Check.same("another stuff", x.need(3), 0);
    }

    private static void needOfAllThereMayBe() {
        LayerQuantities x = new LayerQuantities();
        for (int wall = 0; wall < 12; wall++) {
            x.wall(1000, 1000);
            for (int i = 0; i < 8; i++) {
                x.layer(wall, 9, 500);
            }
        }
        Check.same("without waste", x.need(9), 48000000000L);
        x.waste(9, 100);
        Check.same("with all waste", x.need(9), 96000000000L);
        Check.same("thickness", x.told(11, 1), 4000);
        x.pack(9, 1000000000, 100000);
        Check.same("nothing holds it", x.cents(9), LayerQuantities.NONE);
        x.waste(9, 25);
        Check.same("60 hold it", x.cents(9), 6000000);
        Check.same("60", x.bought(9, 0), 60);
    }

    private static void wrongCallsChangeNothing() {
        LayerQuantities x = new LayerQuantities();
        x.wall(10, 10);
        x.layer(0, 1, 5);
        x.waste(1, 10);
        Check.badArgument("wall", () -> x.wall(1, 0));
        Check.badArgument("opening", () -> x.opening(0, 1, 0));
        Check.badState("opening", () -> x.opening(0, 101, 1));
        Check.badArgument("layer", () -> x.layer(0, 1, 501));
        Check.badArgument("waste", () -> x.waste(1, 101));
        Check.same("need", x.need(1), 550);
        Check.same("area", x.told(0, 0), 100);
        Check.same("thickness", x.told(0, 1), 5);
        Check.same("openings", x.told(0, 2), 0);
        Check.same("the next wall", x.wall(1, 1), 1);
        Check.same("the next layer", x.layer(0, 1, 1), 2);
    }
}
