/** Promises 1 to 7: a test of its own for each sentence that names a boundary case. */
public final class WallBoundsTest {
    public static void main(String[] args) {
        noWalls();
        noPackages();
        noPieces();
        barsAre10000Long();
        barsHaveACutOf0();
        wasteIs0AtFirst();
        aNewObjectBesideAFullOne();

        wallLength();
        wallHeight();
        thereAre12Walls();
        fullOfWallsAndWrong();

        openingWall();
        openingWidth();
        openingHeight();
        itHas6Openings();
        areaWouldComeBelow0();
        areaIsAllThatCounts();
        refusedOpeningIsNotCounted();
        openingRefusedForMore();

        layerWall();
        layerStuff();
        layerThickness();
        itHas8Layers();
        fullOfLayersAndWrong();

        wasteStuff();
        wasteHundredths();
        wasteTellsWhatItWas();

        toldWall();
        toldWhat();
        toldOfAnEmptyWall();
        toldOfAFullWall();

        needStuff();
        needOfNothing();
        needIsRoundedUp();
        needRoundsTheSumOnce();
        needOfTheLargestWalls();
        needAboveAnInt();
        Check.end();
    }

    // ---- promise 1

    private static void noWalls() {
        Sentence s = new Sentence("1: no walls");
        for (int wall = 0; wall < 12; wall++) {
            s.badArgument("told", wall, 0);
            s.badArgument("opening", wall, 1, 1);
            s.badArgument("layer", wall, 0, 1);
        }
        for (int stuff = 0; stuff < 10; stuff++) {
            s.gives(0, "need", stuff);
        }
        s.gives(0, "wall", 1, 1);
    }

    private static void noPackages() {
        Sentence s = new Sentence("1: no packages");
        for (int stuff = 0; stuff < 10; stuff++) {
            s.badArgument("bought", stuff, 0);
            s.gives(0, "cents", stuff);
        }
        s.gives(0, "cents");
        for (int stuff = 0; stuff < 10; stuff++) {
            s.gives(0, "pack", stuff, 1, 1);
        }
    }

    private static void noPieces() {
        Sentence s = new Sentence("1: no pieces");
        s.gives(0, "plan");
        for (int i = 0; i < 10; i++) {
            s.badArgument("bar", i);
            s.badArgument("rest", i);
            s.badArgument("change", i, 1);
        }
        s.gives(0, "piece", 1);
    }

    private static void barsAre10000Long() {
        Sentence s = new Sentence("1: bars are 10000 long");
        s.badArgument("piece", 10001);
        s.gives(0, "piece", 10000);
        s.gives(0, "rest", 0);
        s.badArgument("change", 0, 10001);
        s.gives(10000, "change", 0, 1);
        s.gives(9999, "rest", 0);
    }

    private static void barsHaveACutOf0() {
        Sentence s = new Sentence("1: with a cut of 0");
        for (int i = 0; i < 10; i++) {
            s.gives(i, "piece", 1000);
        }
        s.gives(1, "plan");
        s.gives(0, "rest", 0);
        s.gives(1000, "change", 9, 1001);
        s.gives(2, "plan");
    }

    private static void wasteIs0AtFirst() {
        Sentence s = new Sentence("WASTE: 0 at first");
        s.gives(0, "wall", 1, 1);
        for (int stuff = 0; stuff < 8; stuff++) {
            s.gives(stuff + 1, "layer", 0, stuff, 1);
            s.gives(1, "need", stuff);
        }
        for (int stuff = 0; stuff < 10; stuff++) {
            s.gives(0, "waste", stuff, 100);
        }
    }

    private static void aNewObjectBesideAFullOne() {
        LayerQuantities full = new LayerQuantities();
        for (int i = 0; i < 10; i++) {
            full.wall(9, 9);
            full.waste(i, 9);
            full.pack(i, 9, 9);
            full.layer(i, i, 9);
            full.opening(i, 2, 2);
            full.piece(9);
        }
        full.bars(9, 9);
        noWalls();
        noPackages();
        noPieces();
        barsAre10000Long();
        barsHaveACutOf0();
        wasteIs0AtFirst();
        Check.same("the full one is as it was", full.told(9, 0), 77);
        Check.same("the full one is as it was", full.need(9), 756);
        Check.same("the full one is as it was", full.plan(), 10);
    }

    // ---- promise 2

    private static void wallLength() {
        Sentence s = new Sentence("2: a LENGTH is 1 .. 1000");
        s.outside(0, 1, 1000, "wall", 1, 7);
        s.gives(0, "wall", 1, 7);
        s.gives(1, "wall", 1000, 7);
        s.gives(7, "told", 0, 0);
        s.gives(7000, "told", 1, 0);
        s.outside(0, 1, 1000, "wall", 1, 1000);
        s.gives(2, "wall", 1, 1);
    }

    private static void wallHeight() {
        Sentence s = new Sentence("2: a HEIGHT is 1 .. 1000");
        s.outside(1, 1, 1000, "wall", 7, 1);
        s.gives(0, "wall", 7, 1);
        s.gives(1, "wall", 7, 1000);
        s.gives(7, "told", 0, 0);
        s.gives(7000, "told", 1, 0);
        s.outside(1, 1, 1000, "wall", 1000, 1);
        s.badArgument("wall", -1, -1);
        s.badArgument("wall", 65536, 65536);
        s.gives(2, "wall", 1000, 1000);
        s.gives(1000000, "told", 2, 0);
    }

    private static void thereAre12Walls() {
        Sentence s = new Sentence("2: WALLS are 0 .. 11, as they come; illegal state: there are 12");
        for (int wall = 0; wall < 12; wall++) {
            s.badArgument("told", wall, 0);
            s.badArgument("wall", 0, 1);
            s.gives(wall, "wall", wall + 1, 10);
        }
        s.badState("wall", 1, 1);
        s.badState("wall", 1000, 1000);
        for (int wall = 0; wall < 12; wall++) {
            s.gives(10 * (wall + 1), "told", wall, 0);
        }
    }

    private static void fullOfWallsAndWrong() {
        Sentence s = new Sentence("2: of several exceptions the one named first");
        for (int wall = 0; wall < 12; wall++) {
            s.gives(wall, "wall", 5, 5);
        }
        s.outside(0, 1, 1000, "wall", 1, 1);
        s.outside(1, 1, 1000, "wall", 1, 1);
        s.badArgument("wall", 0, 0);
        s.badState("wall", 1, 1);
    }

    // ---- promise 3

    private static void openingWall() {
        Sentence s = new Sentence("3: there is no such wall");
        for (int wall = 0; wall < 12; wall++) {
            s.badArgument("opening", wall, 1, 1);
            s.gives(wall, "wall", 2, 3);
            s.gives(5, "opening", wall, 1, 1);
        }
        s.outside(0, 0, 11, "opening", 0, 1, 1);
    }

    private static void openingWidth() {
        Sentence s = new Sentence("3: an opening's width is 1 .. 1000");
        s.gives(0, "wall", 1000, 1000);
        s.outside(1, 1, 1000, "opening", 0, 1, 1);
        s.gives(999999, "opening", 0, 1, 1);
        s.gives(998999, "opening", 0, 1000, 1);
        s.gives(2, "told", 0, 2);
        s.outside(1, 1, 1000, "opening", 0, 1, 1000);
    }

    private static void openingHeight() {
        Sentence s = new Sentence("3: an opening's height is 1 .. 1000");
        s.gives(0, "wall", 1000, 1000);
        s.outside(2, 1, 1000, "opening", 0, 1, 1);
        s.gives(999999, "opening", 0, 1, 1);
        s.gives(998999, "opening", 0, 1, 1000);
        s.gives(2, "told", 0, 2);
        s.outside(2, 1, 1000, "opening", 0, 1000, 1);
        s.badArgument("opening", 0, -1, -1);
        s.badArgument("opening", 0, 65536, 65536);
    }

    private static void itHas6Openings() {
        Sentence s = new Sentence("3: illegal state: it has 6");
        s.gives(0, "wall", 10, 10);
        s.gives(1, "wall", 10, 10);
        for (int i = 1; i <= 6; i++) {
            s.gives(i - 1, "told", 0, 2);
            s.gives(100 - 2 * i, "opening", 0, 2, 1);
        }
        s.gives(6, "told", 0, 2);
        s.badState("opening", 0, 1, 1);
        s.badState("opening", 0, 88, 1);
        s.gives(88, "told", 0, 0);
        s.gives(98, "opening", 1, 2, 1);
    }

    private static void areaWouldComeBelow0() {
        Sentence s = new Sentence("3: illegal state: its AREA would come below 0");
        s.gives(0, "wall", 10, 10);
        s.badState("opening", 0, 101, 1);
        s.badState("opening", 0, 1, 101);
        s.badState("opening", 0, 1000, 1000);
        s.gives(50, "opening", 0, 5, 10);
        s.badState("opening", 0, 51, 1);
        s.gives(0, "opening", 0, 50, 1);
        s.badState("opening", 0, 1, 1);
        s.gives(2, "told", 0, 2);
        s.gives(1, "wall", 1, 1);
        s.badState("opening", 1, 2, 1);
        s.gives(0, "opening", 1, 1, 1);
        s.gives(2, "wall", 1000, 1000);
        s.gives(0, "opening", 2, 1000, 1000);
        s.badState("opening", 2, 1, 1);
        s.gives(3, "wall", 1000, 1000);
        s.gives(999999, "opening", 3, 1, 1);
        s.badState("opening", 3, 1000, 1000);
        s.gives(999, "opening", 3, 1000, 999);
        s.badState("opening", 3, 1000, 1);
    }

    private static void areaIsAllThatCounts() {
        Sentence s = new Sentence("3: an opening longer than its wall, but not larger");
        s.gives(0, "wall", 10, 10);
        s.gives(0, "opening", 0, 100, 1);
        s.gives(1, "wall", 1, 1000);
        s.gives(0, "opening", 1, 1000, 1);
    }

    private static void refusedOpeningIsNotCounted() {
        Sentence s = new Sentence("3: a refused opening is none of the 6");
        s.gives(0, "wall", 6, 1);
        for (int i = 5; i >= 0; i--) {
            s.badState("opening", 0, 7, 1);
            s.badArgument("opening", 0, 0, 1);
            s.gives(i, "opening", 0, 1, 1);
        }
        s.badState("opening", 0, 1, 1);
    }

    private static void openingRefusedForMore() {
        Sentence s = new Sentence("3: of several exceptions the one named first");
        s.gives(0, "wall", 1, 1);
        s.badArgument("opening", 0, 1001, 1000);
        s.badArgument("opening", 0, 1000, 1001);
        s.badArgument("opening", 1, 1000, 1000);
        s.badArgument("opening", -1, 1000, 1000);
        s.badArgument("opening", 0, 0, 1000);
        s.badArgument("opening", 0, 1000, 0);
        s.badState("opening", 0, 1000, 1000);
        s.gives(1, "wall", 10, 10);
        for (int i = 1; i <= 6; i++) {
            s.gives(100 - i, "opening", 1, 1, 1);
        }
        s.outside(0, 0, 11, "opening", 0, 1, 1);
        s.outside(1, 1, 1000, "opening", 1, 1, 1);
        s.outside(2, 1, 1000, "opening", 1, 1, 1);
        s.badState("opening", 1, 1000, 1000);
    }

    // ---- promise 4

    private static void layerWall() {
        Sentence s = new Sentence("4: there is no such wall");
        for (int wall = 0; wall < 12; wall++) {
            s.badArgument("layer", wall, 0, 1);
            s.gives(wall, "wall", 2, 3);
            s.gives(1, "layer", wall, 0, 1);
        }
        s.outside(0, 0, 11, "layer", 0, 0, 1);
        s.gives(72, "need", 0);
    }

    private static void layerStuff() {
        Sentence s = new Sentence("4: STUFFS are 0 .. 9");
        s.gives(0, "wall", 2, 3);
        s.outside(1, 0, 9, "layer", 0, 0, 5);
        s.gives(1, "layer", 0, 0, 5);
        s.gives(2, "layer", 0, 9, 4);
        s.gives(30, "need", 0);
        s.gives(24, "need", 9);
    }

    private static void layerThickness() {
        Sentence s = new Sentence("4: a THICKNESS is 1 .. 500");
        s.gives(0, "wall", 2, 3);
        s.outside(2, 1, 500, "layer", 0, 4, 1);
        s.gives(1, "layer", 0, 4, 1);
        s.gives(2, "layer", 0, 4, 500);
        s.gives(501, "told", 0, 1);
        s.gives(3006, "need", 4);
    }

    private static void itHas8Layers() {
        Sentence s = new Sentence("4: illegal state: it has 8");
        s.gives(0, "wall", 1, 1);
        s.gives(1, "wall", 1, 1);
        for (int i = 1; i <= 8; i++) {
            s.badArgument("layer", 0, 10, 1);
            s.gives(i, "layer", 0, i, i);
        }
        s.badState("layer", 0, 0, 1);
        s.badState("layer", 0, 1, 500);
        s.gives(36, "told", 0, 1);
        s.gives(1, "layer", 1, 0, 1);
    }

    private static void fullOfLayersAndWrong() {
        Sentence s = new Sentence("4: of several exceptions the one named first");
        s.gives(0, "wall", 1, 1);
        for (int i = 1; i <= 8; i++) {
            s.gives(i, "layer", 0, 3, 500);
        }
        s.outside(0, 0, 0, "layer", 0, 3, 1);
        s.outside(1, 0, 9, "layer", 0, 3, 1);
        s.outside(2, 1, 500, "layer", 0, 3, 1);
        s.badState("layer", 0, 3, 1);
    }

    // ---- promise 5

    private static void wasteStuff() {
        Sentence s = new Sentence("5: STUFFS are 0 .. 9");
        s.outside(0, 0, 9, "waste", 0, 50);
        s.gives(0, "waste", 0, 1);
        s.gives(0, "waste", 9, 2);
        s.gives(1, "waste", 0, 0);
        s.gives(2, "waste", 9, 0);
    }

    private static void wasteHundredths() {
        Sentence s = new Sentence("5: WASTE is 0 .. 100 hundredths");
        s.gives(0, "waste", 5, 40);
        s.outside(1, 0, 100, "waste", 5, 0);
        s.gives(40, "waste", 5, 100);
        s.outside(1, 0, 100, "waste", 5, 0);
        s.gives(100, "waste", 5, 0);
        s.outside(1, 0, 100, "waste", 5, 0);
        s.gives(0, "waste", 5, 0);
        s.badArgument("waste", 10, 101);
    }

    private static void wasteTellsWhatItWas() {
        Sentence s = new Sentence("5: what it was");
        for (int stuff = 0; stuff < 10; stuff++) {
            s.gives(0, "waste", stuff, 10 * stuff);
        }
        for (int stuff = 0; stuff < 10; stuff++) {
            s.badArgument("waste", stuff, 101);
            s.gives(10 * stuff, "waste", stuff, 7);
            s.gives(7, "waste", stuff, 7);
        }
    }

    // ---- promise 6

    private static void toldWall() {
        Sentence s = new Sentence("6: there is no such wall");
        for (int what = 0; what < 3; what++) {
            s.badArgument("told", 0, what);
        }
        s.gives(0, "wall", 2, 3);
        for (int what = 0; what < 3; what++) {
            s.outside(0, 0, 0, "told", 0, what);
        }
        for (int wall = 1; wall < 12; wall++) {
            s.gives(wall, "wall", wall, 1);
        }
        s.gives(6, "told", 0, 0);
        s.gives(11, "told", 11, 0);
        s.outside(0, 0, 11, "told", 0, 0);
    }

    private static void toldWhat() {
        Sentence s = new Sentence("6: what = 0, 1, 2");
        s.gives(0, "wall", 20, 30);
        s.gives(593, "opening", 0, 7, 1);
        s.gives(1, "layer", 0, 8, 9);
        s.gives(593, "told", 0, 0);
        s.gives(9, "told", 0, 1);
        s.gives(1, "told", 0, 2);
        s.outside(1, 0, 2, "told", 0, 0);
        s.badArgument("told", 1, 3);
    }

    private static void toldOfAnEmptyWall() {
        Sentence s = new Sentence("6: no openings, no layers, no area");
        s.gives(0, "wall", 1, 1);
        s.gives(1, "told", 0, 0);
        s.gives(0, "told", 0, 1);
        s.gives(0, "told", 0, 2);
        s.gives(0, "opening", 0, 1, 1);
        s.gives(0, "told", 0, 0);
        s.gives(0, "told", 0, 1);
        s.gives(1, "told", 0, 2);
    }

    private static void toldOfAFullWall() {
        Sentence s = new Sentence("6: the largest area, all layers, all openings");
        s.gives(0, "wall", 1000, 1000);
        s.gives(1000000, "told", 0, 0);
        for (int i = 1; i <= 8; i++) {
            s.gives(i, "layer", 0, i, 500);
            s.gives(500 * i, "told", 0, 1);
        }
        for (int i = 1; i <= 6; i++) {
            s.gives(1000000 - 100 * i, "opening", 0, 10, 10);
            s.gives(i, "told", 0, 2);
        }
        s.badState("layer", 0, 0, 1);
        s.badState("opening", 0, 1, 1);
        s.gives(999400, "told", 0, 0);
        s.gives(4000, "told", 0, 1);
        s.gives(6, "told", 0, 2);
    }

    // ---- promise 7

    private static void needStuff() {
        Sentence s = new Sentence("7: STUFFS are 0 .. 9");
        s.gives(0, "wall", 1, 1);
        s.gives(1, "layer", 0, 0, 3);
        s.gives(2, "layer", 0, 9, 4);
        s.gives(3, "need", 0);
        s.gives(4, "need", 9);
        s.outside(0, 0, 9, "need", 0);
    }

    private static void needOfNothing() {
        Sentence s = new Sentence("7: a NEED of 0 stays 0 with waste");
        s.gives(0, "waste", 2, 100);
        s.gives(0, "need", 2);
        s.gives(0, "wall", 3, 3);
        s.gives(0, "need", 2);
        s.gives(1, "layer", 0, 2, 500);
        s.gives(9000, "need", 2);
        s.gives(0, "opening", 0, 9, 1);
        s.gives(0, "need", 2);
        s.gives(2, "layer", 0, 2, 500);
        s.gives(0, "need", 2);
        s.gives(100, "waste", 2, 1);
        s.gives(0, "need", 2);
    }

    private static void needIsRoundedUp() {
        int[][] rows = {{1, 0, 1}, {1, 1, 2}, {1, 99, 2}, {1, 100, 2}, {2, 50, 3}, {2, 51, 4},
            {99, 1, 100}, {100, 1, 101}, {101, 1, 103}, {100, 99, 199}, {25, 4, 26}, {25, 3, 26},
            {25, 5, 27}, {500, 100, 1000}, {499, 100, 998}, {3, 33, 4}, {3, 34, 5}};
        for (int[] row : rows) {
            Sentence s = new Sentence("7: " + row[0] + " with " + row[1] + ", rounded up");
            s.gives(0, "wall", 1, 1);
            s.gives(1, "layer", 0, 6, row[0]);
            s.gives(0, "waste", 6, row[1]);
            s.gives(row[2], "need", 6);
        }
    }

    private static void needRoundsTheSumOnce() {
        Sentence s = new Sentence("7: WASTE comes to the sum of all its layers");
        s.gives(0, "wall", 50, 1);
        s.gives(1, "wall", 1, 1);
        s.gives(0, "waste", 1, 1);
        s.gives(1, "layer", 0, 1, 1);
        s.gives(51, "need", 1);
        s.gives(2, "layer", 0, 1, 1);
        s.gives(101, "need", 1);
        s.gives(1, "layer", 1, 1, 1);
        s.gives(103, "need", 1);
        s.gives(1, "waste", 1, 98);
        s.gives(200, "need", 1);
    }

    private static void needOfTheLargestWalls() {
        Sentence s = new Sentence("7: all walls and layers of the largest");
        for (int wall = 0; wall < 12; wall++) {
            s.gives(wall, "wall", 1000, 1000);
            for (int i = 1; i <= 8; i++) {
                s.gives(i, "layer", wall, 7, 500);
            }
        }
        s.gives(48000000000L, "need", 7);
        s.gives(0, "waste", 7, 100);
        s.gives(96000000000L, "need", 7);
        s.gives(100, "waste", 7, 99);
        s.gives(95520000000L, "need", 7);
        s.badState("layer", 11, 7, 500);
        s.badState("wall", 1000, 1000);
        s.gives(0, "need", 8);
    }

    private static void needAboveAnInt() {
        Sentence s = new Sentence("7: no wrap-around");
        s.gives(0, "wall", 1000, 1000);
        s.gives(1, "layer", 0, 0, 22);
        s.gives(22000000, "need", 0);
        s.gives(2, "layer", 0, 0, 500);
        s.gives(522000000, "need", 0);
        for (int i = 3; i <= 8; i++) {
            s.gives(i, "layer", 0, 0, 500);
        }
        s.gives(3522000000L, "need", 0);
        s.gives(999999, "opening", 0, 1, 1);
        s.gives(3521996478L, "need", 0);
    }
}
