/** Promises 8 to 11: a test of its own for each sentence that names a boundary case. */
public final class PackageBoundsTest {
    private static final int NONE = LayerQuantities.NONE;

    public static void main(String[] args) {
        packStuff();
        packMuch();
        packCents();
        itHas4Packages();
        fullOfPackagesAndWrong();

        boughtStuff();
        boughtPackage();
        asMuchAsTheNeedAtLeast();
        just60Packages();
        just60OfSeveralKinds();
        theCheapestWouldBeMoreThan60();
        nothingToBuyOfMoreThan60();
        nothingToBuyWithoutPackages();
        nothingIsBoughtForNoNeed();
        thoseThatCostLeast();
        ofSeveralTheFewest();
        ofTheseTheMostOfPackage0();
        thenOfPackage1AndSoOn();
        theLargestPackages();

        centsStuff();
        centsOfNothingToBuy();
        centsOfNoNeed();
        centsOfTheDearest();

        centsOfAllOfNothing();
        noneIfOfOneThereIsNothing();
        noneThoughOthersAreBought();
        centsOfAllTheDearest();
        Check.end();
    }

    /** Stuff 0 needs so much, 0 .. 500, and has packages of much and cents. */
    private static Sentence needing(String words, int need, int[]... packs) {
        Sentence s = new Sentence(words);
        s.gives(0, "wall", 1, 1);
        if (need > 0) {
            s.gives(1, "layer", 0, 0, need);
        }
        for (int i = 0; i < packs.length; i++) {
            s.gives(i, "pack", 0, packs[i][0], packs[i][1]);
        }
        return s;
    }

    private static int[] pack(int much, int cents) {
        return new int[] {much, cents};
    }

    private static void buys(Sentence s, int cents, int... counts) {
        s.gives(cents, "cents", 0);
        for (int i = 0; i < counts.length; i++) {
            s.gives(counts[i], "bought", 0, i);
        }
        s.badArgument("bought", 0, counts.length);
    }

    // ---- promise 8

    private static void packStuff() {
        Sentence s = new Sentence("8: STUFFS are 0 .. 9");
        s.outside(0, 0, 9, "pack", 0, 1, 1);
        s.gives(0, "pack", 0, 1, 1);
        s.gives(0, "pack", 9, 1, 1);
        s.outside(0, 0, 9, "pack", 0, 1, 1);
    }

    private static void packMuch() {
        Sentence s = needing("8: so much in one, 1 .. 10^9", 1);
        s.outside(1, 1, 1000000000, "pack", 0, 1, 9);
        s.gives(0, "pack", 0, 1, 9);
        s.outside(1, 1, 1000000000, "pack", 0, 1, 1);
        s.gives(1, "pack", 0, 1000000000, 8);
        buys(s, 8, 0, 1);
    }

    private static void packCents() {
        Sentence s = needing("8: CENTS are 1 .. 100000", 1);
        s.outside(2, 1, 100000, "pack", 0, 1, 1);
        s.gives(0, "pack", 0, 1, 100000);
        buys(s, 100000, 1);
        s.outside(2, 1, 100000, "pack", 0, 1, 1);
        s.gives(1, "pack", 0, 1, 1);
        buys(s, 1, 0, 1);
    }

    private static void itHas4Packages() {
        Sentence s = new Sentence("8: PACKAGES are 0 .. 3, as they come; illegal state: it has 4");
        s.gives(0, "wall", 1, 1);
        s.gives(1, "layer", 0, 3, 20);
        for (int i = 0; i < 4; i++) {
            s.badArgument("bought", 3, i);
            s.badArgument("pack", 3, 0, 1);
            s.gives(i, "pack", 3, 10, 50 - i);
            s.gives(100 - 2 * i, "cents", 3);
        }
        s.badState("pack", 3, 10, 1);
        s.badState("pack", 3, 1000000000, 1);
        s.badState("pack", 3, 1, 100000);
        s.gives(2, "bought", 3, 3);
        for (int i = 0; i < 4; i++) {
            s.gives(i, "pack", 4, 1, 1);
        }
        s.gives(0, "pack", 2, 1, 1);
        s.badState("pack", 4, 1, 1);
    }

    private static void fullOfPackagesAndWrong() {
        Sentence s = new Sentence("8: of several exceptions the one named first");
        for (int i = 0; i < 4; i++) {
            s.gives(i, "pack", 9, 5, 5);
        }
        s.outside(0, 0, 9, "pack", 9, 1, 1);
        s.outside(1, 1, 1000000000, "pack", 9, 1, 1);
        s.outside(2, 1, 100000, "pack", 9, 1, 1);
        s.badArgument("pack", 10, 0, 0);
        s.badState("pack", 9, 1, 1);
    }

    // ---- promise 9

    private static void boughtStuff() {
        Sentence s = new Sentence("9: STUFFS are 0 .. 9");
        for (int stuff = 0; stuff < 10; stuff++) {
            s.gives(0, "pack", stuff, 1, 1);
        }
        s.gives(0, "bought", 0, 0);
        s.gives(0, "bought", 9, 0);
        s.outside(0, 0, 9, "bought", 0, 0);
    }

    private static void boughtPackage() {
        Sentence s = new Sentence("9: there is no such package");
        for (int i = 0; i < 4; i++) {
            s.badArgument("bought", 6, i);
            s.badArgument("bought", 6, -1);
            s.gives(i, "pack", 6, 1, 1);
            s.gives(0, "bought", 6, i);
        }
        s.outside(1, 0, 3, "bought", 6, 0);
        s.badArgument("bought", 5, 0);
        s.badArgument("bought", 7, 0);
    }

    private static void asMuchAsTheNeedAtLeast() {
        String words = "9: as much as its NEED together, at least";
        buys(needing(words, 99, pack(50, 7)), 14, 2);
        buys(needing(words, 100, pack(50, 7)), 14, 2);
        buys(needing(words, 101, pack(50, 7)), 21, 3);
        buys(needing(words, 1, pack(50, 7)), 7, 1);
        buys(needing(words, 50, pack(50, 7)), 7, 1);
        buys(needing(words, 51, pack(50, 7)), 14, 2);
        buys(needing(words, 500, pack(500, 7)), 7, 1);
        buys(needing(words, 130, pack(50, 70), pack(30, 40)), 180, 2, 1);
        buys(needing(words, 131, pack(50, 70), pack(30, 40)), 190, 1, 3);
        Sentence s = needing(words, 100, pack(50, 7));
        s.gives(0, "waste", 0, 1);
        buys(s, 21, 3);
        s.gives(1, "waste", 0, 50);
        buys(s, 21, 3);
        s.gives(50, "waste", 0, 51);
        buys(s, 28, 4);
    }

    private static void just60Packages() {
        String words = "9: at most 60 packages together";
        buys(needing(words, 59, pack(1, 3)), 177, 59);
        buys(needing(words, 60, pack(1, 3)), 180, 60);
        buys(needing(words, 61, pack(1, 3)), NONE, NONE);
        buys(needing(words, 480, pack(8, 1)), 60, 60);
        buys(needing(words, 481, pack(8, 1)), NONE, NONE);
        buys(needing(words, 480, pack(1, 1), pack(8, 100)), 6000, 0, 60);
        buys(needing(words, 481, pack(1, 1), pack(8, 100)), NONE, NONE, NONE);
        buys(needing(words, 480, pack(8, 2), pack(1, 1), pack(7, 1), pack(8, 2)),
                120, 60, 0, 0, 0);
    }

    private static void just60OfSeveralKinds() {
        String words = "9: at most 60 packages of all kinds together";
        buys(needing(words, 62, pack(1, 1), pack(2, 50)), 158, 58, 2);
        buys(needing(words, 119, pack(1, 1), pack(2, 50)), 2951, 1, 59);
        buys(needing(words, 120, pack(1, 1), pack(2, 50)), 3000, 0, 60);
        buys(needing(words, 121, pack(1, 1), pack(2, 50)), NONE, NONE, NONE);
        buys(needing(words, 64, pack(1, 1), pack(2, 50), pack(3, 80)), 218, 58, 0, 2);
        buys(needing(words, 239, pack(1, 1), pack(2, 1000), pack(3, 3000), pack(4, 6000)),
                357000, 0, 0, 1, 59);
    }

    private static void theCheapestWouldBeMoreThan60() {
        String words = "9: those that cost least are looked for among 60 at most";
        buys(needing(words, 61, pack(1, 1), pack(61, 500)), 500, 0, 1);
        buys(needing(words, 60, pack(1, 1), pack(61, 500)), 60, 60, 0);
        buys(needing(words, 61, pack(1, 1), pack(2, 2)), 61, 1, 30);
        buys(needing(words, 61, pack(1, 1), pack(2, 3)), 62, 59, 1);
    }

    private static void nothingToBuyOfMoreThan60() {
        Sentence s = needing("9: NONE if that is not enough", 61, pack(1, 1));
        buys(s, NONE, NONE);
        s.gives(1, "pack", 0, 1, 2);
        buys(s, NONE, NONE, NONE);
        s.gives(2, "pack", 0, 1, 100000);
        buys(s, NONE, NONE, NONE, NONE);
        s.gives(3, "pack", 0, 2, 100000);
        buys(s, 100059, 59, 0, 0, 1);
        s.badState("pack", 0, 61, 1);
        s.gives(0, "waste", 0, 96);
        buys(s, 6000000, 0, 0, 0, 60);
        s.gives(96, "waste", 0, 97);
        buys(s, NONE, NONE, NONE, NONE, NONE);
    }

    private static void nothingToBuyWithoutPackages() {
        Sentence s = needing("9: or it has none, and needs something", 1);
        s.gives(NONE, "cents", 0);
        s.badArgument("bought", 0, 0);
        s.gives(0, "pack", 1, 1, 1);
        s.gives(NONE, "cents", 0);
        s.gives(0, "pack", 0, 1, 5);
        buys(s, 5, 1);
    }

    private static void nothingIsBoughtForNoNeed() {
        Sentence s = needing("9: 0 of each package for a NEED of 0", 0,
                pack(1, 1), pack(1000000000, 1), pack(5, 100000));
        buys(s, 0, 0, 0, 0);
        s.gives(0, "waste", 0, 100);
        buys(s, 0, 0, 0, 0);
        s.gives(1, "layer", 0, 0, 500);
        buys(s, 1, 0, 1, 0);
        s.gives(0, "opening", 0, 1, 1);
        buys(s, 0, 0, 0, 0);
    }

    private static void thoseThatCostLeast() {
        String words = "9: those that cost least, of however many packages";
        buys(needing(words, 10, pack(10, 11), pack(5, 5)), 10, 0, 2);
        buys(needing(words, 10, pack(10, 51), pack(1, 5)), 50, 0, 10);
        buys(needing(words, 10, pack(3, 4), pack(10, 13)), 13, 0, 1);
        buys(needing(words, 50, pack(1, 1), pack(50, 51)), 50, 50, 0);
        buys(needing(words, 7, pack(3, 3), pack(4, 4)), 7, 1, 1);
        buys(needing(words, 6, pack(4, 4), pack(9, 7)), 7, 0, 1);
    }

    private static void ofSeveralTheFewest() {
        String words = "9: of several the fewest packages together";
        buys(needing(words, 5, pack(1, 1), pack(5, 5)), 5, 0, 1);
        buys(needing(words, 60, pack(1, 1), pack(60, 60)), 60, 0, 1);
        buys(needing(words, 10, pack(2, 2), pack(3, 3), pack(7, 7)), 10, 0, 1, 1);
        buys(needing(words, 12, pack(4, 4), pack(6, 6), pack(3, 3)), 12, 0, 2, 0);
        buys(needing(words, 6, pack(3, 5), pack(100, 10)), 10, 0, 1);
        buys(needing(words, 6, pack(1, 1), pack(2, 2), pack(3, 3), pack(6, 6)), 6, 0, 0, 0, 1);
    }

    private static void ofTheseTheMostOfPackage0() {
        String words = "9: of these the most of package 0";
        buys(needing(words, 10, pack(5, 5), pack(5, 5)), 10, 2, 0);
        buys(needing(words, 1, pack(5, 5), pack(9, 5)), 5, 1, 0);
        buys(needing(words, 1, pack(9, 5), pack(5, 5)), 5, 1, 0);
        buys(needing(words, 10, pack(4, 5), pack(5, 5), pack(6, 5)), 10, 1, 0, 1);
        buys(needing(words, 10, pack(5, 5), pack(4, 5), pack(6, 5)), 10, 2, 0, 0);
        buys(needing(words, 10, pack(2, 2), pack(5, 5), pack(8, 8)), 10, 1, 0, 1);
        buys(needing(words, 300, pack(5, 1), pack(5, 1), pack(5, 1), pack(5, 1)), 60, 60, 0, 0, 0);
    }

    private static void thenOfPackage1AndSoOn() {
        String words = "9: then of 1, and so on";
        buys(needing(words, 10, pack(1, 9), pack(5, 5), pack(5, 5)), 10, 0, 2, 0);
        buys(needing(words, 10, pack(1, 9), pack(1, 9), pack(5, 5), pack(5, 5)), 10, 0, 0, 2, 0);
        buys(needing(words, 10, pack(1, 9), pack(4, 5), pack(5, 5), pack(6, 5)), 10, 0, 1, 0, 1);
        buys(needing(words, 13, pack(3, 7), pack(4, 7), pack(5, 7), pack(5, 7)), 21, 1, 0, 2, 0);
        buys(needing(words, 9, pack(1, 9), pack(4, 5), pack(5, 5), pack(6, 5)), 10, 0, 1, 1, 0);
        buys(needing(words, 12, pack(3, 5), pack(4, 5), pack(5, 5), pack(4, 5)), 15, 1, 1, 1, 0);
    }

    private static void theLargestPackages() {
        Sentence s = new Sentence("9: the largest packages and needs, no wrap-around");
        for (int wall = 0; wall < 12; wall++) {
            s.gives(wall, "wall", 1000, 1000);
            for (int i = 1; i <= 8; i++) {
                s.gives(i, "layer", wall, 0, 500);
            }
        }
        s.gives(0, "pack", 0, 1000000000, 100000);
        buys(s, 4800000, 48);
        s.gives(0, "waste", 0, 25);
        buys(s, 6000000, 60);
        s.gives(25, "waste", 0, 26);
        buys(s, NONE, NONE);
        s.gives(1, "pack", 0, 1000000000, 1);
        buys(s, NONE, NONE, NONE);
        s.gives(26, "waste", 0, 25);
        buys(s, 60, 0, 60);
        s.gives(25, "waste", 0, 100);
        buys(s, NONE, NONE, NONE);
    }

    // ---- promise 10

    private static void centsStuff() {
        Sentence s = new Sentence("10: STUFFS are 0 .. 9");
        s.gives(0, "wall", 1, 1);
        s.gives(1, "layer", 0, 0, 1);
        s.gives(2, "layer", 0, 9, 1);
        s.gives(0, "pack", 0, 1, 11);
        s.gives(0, "pack", 9, 1, 22);
        s.gives(11, "cents", 0);
        s.gives(22, "cents", 9);
        s.outside(0, 0, 9, "cents", 0);
    }

    private static void centsOfNothingToBuy() {
        Sentence s = needing("10: NONE if there is nothing to buy", 500);
        s.gives(NONE, "cents", 0);
        s.gives(0, "pack", 0, 8, 1);
        s.gives(NONE, "cents", 0);
        s.gives(1, "pack", 0, 9, 7);
        s.gives(180, "cents", 0);
        s.gives(0, "waste", 0, 9);
        s.gives(NONE, "cents", 0);
        s.gives(9, "waste", 0, 8);
        s.gives(420, "cents", 0);
    }

    private static void centsOfNoNeed() {
        Sentence s = new Sentence("10: 0 if it needs nothing");
        s.gives(0, "cents", 5);
        s.gives(0, "wall", 1, 1);
        s.gives(0, "cents", 5);
        s.gives(0, "pack", 5, 1, 1);
        s.gives(0, "cents", 5);
        s.gives(1, "layer", 0, 5, 500);
        s.gives(NONE, "cents", 5);
        s.gives(2, "layer", 0, 4, 1);
        s.gives(NONE, "cents", 4);
        s.gives(0, "opening", 0, 1, 1);
        s.gives(0, "cents", 5);
        s.gives(0, "cents", 4);
    }

    private static void centsOfTheDearest() {
        Sentence s = needing("10: 60 of the dearest", 60, pack(1, 100000));
        buys(s, 6000000, 60);
        s.gives(1, "pack", 0, 1, 99999);
        buys(s, 5999940, 0, 60);
    }

    // ---- promise 11

    private static void centsOfAllOfNothing() {
        Sentence s = new Sentence("11: all stuffs together, of which none is needed");
        s.gives(0, "cents");
        s.gives(0, "wall", 1, 1);
        s.gives(0, "pack", 0, 1, 1);
        s.gives(0, "pack", 9, 1, 1);
        s.gives(0, "cents");
        s.gives(1, "layer", 0, 0, 1);
        s.gives(1, "cents");
        s.gives(0, "opening", 0, 1, 1);
        s.gives(0, "cents");
    }

    private static void noneIfOfOneThereIsNothing() {
        for (int stuff = 0; stuff < 10; stuff++) {
            Sentence s = new Sentence("11: NONE if of one there is nothing to buy, " + stuff);
            s.gives(0, "wall", 1, 1);
            s.gives(1, "layer", 0, stuff, 61);
            s.gives(NONE, "cents");
            s.gives(0, "pack", stuff, 1, 1);
            s.gives(NONE, "cents");
            s.gives(1, "pack", stuff, 61, 70);
            s.gives(70, "cents");
        }
    }

    private static void noneThoughOthersAreBought() {
        for (int stuff = 0; stuff < 10; stuff++) {
            Sentence s = new Sentence("11: NONE though others are bought, " + stuff);
            s.gives(0, "wall", 1, 1);
            s.gives(1, "wall", 1, 1);
            for (int i = 0; i < 10; i++) {
                s.gives(i % 5 + 1, "layer", i / 5, i, 1);
                if (i != stuff) {
                    s.gives(0, "pack", i, 1, 10 + i);
                }
            }
            s.gives(NONE, "cents", stuff);
            s.gives(NONE, "cents");
            s.gives(0, "pack", stuff, 1, 10 + stuff);
            s.gives(145, "cents");
        }
    }

    private static void centsOfAllTheDearest() {
        Sentence s = new Sentence("11: 60 of the dearest of each stuff");
        s.gives(0, "wall", 1, 1);
        s.gives(1, "wall", 1, 1);
        for (int stuff = 0; stuff < 10; stuff++) {
            s.gives(stuff % 5 + 1, "layer", stuff / 5, stuff, 60);
            s.gives(0, "pack", stuff, 1, 100000);
        }
        s.gives(60000000, "cents");
        s.gives(0, "waste", 9, 1);
        s.gives(NONE, "cents");
        s.gives(NONE, "cents", 9);
    }
}
