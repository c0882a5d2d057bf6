/** Promises 12 to 17: a test of its own for each sentence that names a boundary case. */
public final class BarBoundsTest {
    public static void main(String[] args) {
        barsLength();
        barsCut();
        aPieceIsLonger();
        anyPieceIsLonger();
        noPieceIsLongerAnyMore();
        aPieceIsLongerAndWrong();

        pieceLength();
        pieceLongerThanABar();
        thereAre10Pieces();
        fullOfPiecesAndWrong();

        changePiece();
        changeLength();
        changeLongerThanABar();
        changeTellsWhatItHad();
        changeWithAllPieces();

        planWithoutPieces();
        planOfOnePiece();
        planOfOnePieceABar();
        aBarHoldsPieces();
        noCutAtTheEnds();
        theFewestBars();
        moreBarsThanTheLengthsFill();

        barPiece();
        piece0IntoBar0();
        theLeastNumberThatIsEnough();
        notTheLeastIfMoreBarsWere();

        noSuchBar();
        noSuchBarWithoutPieces();
        noSuchBarAnyMore();
        restIsTheWholeLengthLess();
        Check.end();
    }

    private static Sentence cutting(String words, int length, int cut, int... pieces) {
        Sentence s = new Sentence(words);
        s.takes("bars", length, cut);
        for (int i = 0; i < pieces.length; i++) {
            s.gives(i, "piece", pieces[i]);
        }
        return s;
    }

    private static void plans(Sentence s, int bars, int... barOf) {
        s.gives(bars, "plan");
        for (int i = 0; i < barOf.length; i++) {
            s.gives(barOf[i], "bar", i);
        }
        s.badArgument("bar", barOf.length);
        s.badArgument("rest", bars);
    }

    // ---- promise 12

    private static void barsLength() {
        Sentence s = new Sentence("12: a length of bars is 1 .. 10000");
        s.takes("bars", 300, 3);
        s.outside(0, 1, 10000, "bars", 1, 0);
        s.badArgument("piece", 301);
        s.takes("bars", 1, 0);
        s.badArgument("piece", 2);
        s.gives(0, "piece", 1);
        s.gives(0, "rest", 0);
        s.outside(0, 1, 10000, "bars", 1, 0);
        s.takes("bars", 10000, 0);
        s.gives(9999, "rest", 0);
        s.outside(0, 1, 10000, "bars", 1, 0);
        s.gives(1, "piece", 10000);
    }

    private static void barsCut() {
        Sentence s = new Sentence("12: a CUT is 0 .. 100");
        s.outside(1, 0, 100, "bars", 300, 0);
        s.takes("bars", 300, 0);
        s.gives(0, "piece", 1);
        s.gives(1, "piece", 1);
        s.gives(298, "rest", 0);
        s.outside(1, 0, 100, "bars", 300, 0);
        s.takes("bars", 300, 100);
        s.gives(198, "rest", 0);
        s.outside(1, 0, 100, "bars", 300, 0);
        s.gives(198, "rest", 0);
        s.badArgument("bars", 0, 101);
    }

    private static void aPieceIsLonger() {
        Sentence s = cutting("12: illegal state: a piece is longer", 10000, 0, 500);
        s.badState("bars", 499, 0);
        s.badState("bars", 499, 100);
        s.badState("bars", 1, 100);
        s.gives(9500, "rest", 0);
        s.takes("bars", 500, 100);
        s.gives(0, "rest", 0);
        s.badState("bars", 499, 100);
        s.takes("bars", 501, 100);
        s.gives(1, "rest", 0);
    }

    private static void anyPieceIsLonger() {
        for (int longest = 0; longest < 10; longest++) {
            Sentence s = new Sentence("12: any piece is longer, " + longest);
            for (int i = 0; i < 10; i++) {
                s.gives(i, "piece", i == longest ? 30 : 20);
            }
            s.badState("bars", 29, 0);
            s.takes("bars", 30, 0);
            s.gives(10, "plan");
            s.gives(longest, "bar", longest);
            s.gives(0, "rest", longest);
        }
    }

    private static void noPieceIsLongerAnyMore() {
        Sentence s = cutting("12: a piece was longer", 100, 0, 90, 40);
        s.badState("bars", 89, 0);
        s.gives(90, "change", 0, 30);
        s.badState("bars", 39, 0);
        s.takes("bars", 40, 0);
        plans(s, 2, 0, 1);
        s.badArgument("change", 0, 41);
    }

    private static void aPieceIsLongerAndWrong() {
        Sentence s = cutting("12: of several exceptions the one named first", 100, 0, 90);
        s.badArgument("bars", 0, 0);
        s.badArgument("bars", -1, 0);
        s.badArgument("bars", Integer.MIN_VALUE, 0);
        s.outside(1, 0, 100, "bars", 89, 0);
        s.badState("bars", 89, 0);
        s.badState("bars", 89, 100);
    }

    // ---- promise 13

    private static void pieceLength() {
        Sentence s = cutting("13: a piece is 1 long at least", 50, 0);
        s.outside(0, 1, 50, "piece", 1);
        s.gives(0, "plan");
        s.gives(0, "piece", 1);
        s.gives(1, "piece", 50);
        s.outside(0, 1, 50, "piece", 1);
        plans(s, 2, 0, 1);
    }

    private static void pieceLongerThanABar() {
        Sentence s = new Sentence("13: illegal argument: also if it is longer than a bar");
        s.badArgument("piece", 10001);
        s.gives(0, "piece", 10000);
        s.gives(10000, "change", 0, 1);
        s.takes("bars", 70, 100);
        s.badArgument("piece", 71);
        s.badArgument("piece", 10000);
        s.gives(1, "piece", 70);
        s.takes("bars", 71, 100);
        s.gives(2, "piece", 71);
        s.badArgument("piece", 72);
        s.gives(71, "change", 2, 70);
        s.takes("bars", 70, 0);
        s.badArgument("piece", 71);
        s.gives(3, "piece", 70);
    }

    private static void thereAre10Pieces() {
        Sentence s = cutting("13: PIECES are 0 .. 9, as they come; illegal state: there are 10",
                100, 0);
        for (int i = 0; i < 10; i++) {
            s.badArgument("bar", i);
            s.badArgument("change", i, 1);
            s.badArgument("piece", 0);
            s.gives(i, "piece", 10 + i);
        }
        s.badState("piece", 1);
        s.badState("piece", 100);
        for (int i = 0; i < 10; i++) {
            s.gives(10 + i, "change", i, 10);
        }
        s.badState("piece", 1);
        s.gives(1, "plan");
    }

    private static void fullOfPiecesAndWrong() {
        Sentence s = cutting("13: of several exceptions the one named first", 100, 0,
                1, 2, 3, 4, 5, 6, 7, 8, 9, 10);
        s.outside(0, 1, 100, "piece", 1);
        s.badState("piece", 1);
        s.badState("piece", 100);
        s.takes("bars", 99, 0);
        s.badArgument("piece", 100);
        s.badState("piece", 99);
    }

    // ---- promise 14

    private static void changePiece() {
        Sentence s = cutting("14: there is no such piece", 100, 0);
        for (int i = 0; i < 10; i++) {
            s.badArgument("change", i, 1);
            s.gives(i, "piece", 10);
            s.gives(10, "change", i, 9);
            s.badArgument("change", -1, 1);
        }
        s.outside(0, 0, 9, "change", 0, 1);
    }

    private static void changeLength() {
        Sentence s = cutting("14: as piece(): 1 long at least", 50, 0, 20, 30);
        s.outside(1, 1, 50, "change", 0, 1);
        s.outside(1, 1, 50, "change", 1, 1);
        s.gives(20, "change", 0, 50);
        s.gives(50, "change", 0, 1);
        s.outside(1, 1, 50, "change", 0, 1);
        s.gives(1, "change", 0, 1);
        s.badArgument("change", 2, 51);
    }

    private static void changeLongerThanABar() {
        Sentence s = new Sentence("14: as piece(): also if it is longer than a bar");
        s.gives(0, "piece", 40);
        s.badArgument("change", 0, 10001);
        s.gives(40, "change", 0, 10000);
        s.gives(10000, "change", 0, 40);
        s.takes("bars", 40, 100);
        s.badArgument("change", 0, 41);
        s.gives(40, "change", 0, 40);
        s.takes("bars", 41, 100);
        s.gives(40, "change", 0, 41);
        s.badArgument("change", 0, 42);
    }

    private static void changeTellsWhatItHad() {
        Sentence s = cutting("14: what it had", 100, 0, 10, 20, 30);
        s.gives(20, "change", 1, 25);
        s.badArgument("change", 1, 101);
        s.badArgument("change", 1, 0);
        s.gives(25, "change", 1, 25);
        s.gives(25, "change", 1, 60);
        s.gives(10, "change", 0, 11);
        s.gives(30, "change", 2, 31);
        plans(s, 2, 0, 0, 1);
        s.gives(29, "rest", 0);
        s.gives(69, "rest", 1);
    }

    private static void changeWithAllPieces() {
        Sentence s = cutting("14: with all 10 pieces no illegal state", 100, 0,
                10, 10, 10, 10, 10, 10, 10, 10, 10, 10);
        s.gives(0, "rest", 0);
        for (int i = 0; i < 10; i++) {
            s.gives(10, "change", i, 9);
        }
        s.gives(10, "rest", 0);
        s.badArgument("change", 10, 9);
        s.badArgument("change", 9, 101);
    }

    // ---- promise 15

    private static void planWithoutPieces() {
        Sentence s = new Sentence("15: 0 without pieces");
        s.gives(0, "plan");
        s.takes("bars", 1, 100);
        s.gives(0, "plan");
        s.badArgument("piece", 2);
        s.gives(0, "plan");
        s.gives(0, "piece", 1);
        s.gives(1, "plan");
    }

    private static void planOfOnePiece() {
        String words = "15: one piece, 1 bar";
        plans(cutting(words, 10000, 100, 10000), 1, 0);
        plans(cutting(words, 10000, 100, 1), 1, 0);
        plans(cutting(words, 1, 100, 1), 1, 0);
    }

    private static void planOfOnePieceABar() {
        String words = "15: 10 bars at most";
        plans(cutting(words, 9, 0, 5, 5, 5, 5, 5, 5, 5, 5, 5, 5), 10,
                0, 1, 2, 3, 4, 5, 6, 7, 8, 9);
        plans(cutting(words, 1, 100, 1, 1, 1, 1, 1, 1, 1, 1, 1, 1), 10,
                0, 1, 2, 3, 4, 5, 6, 7, 8, 9);
        plans(cutting(words, 10000, 100, 10000, 9999, 9998, 9997, 9996, 9995, 9994, 9993, 9992,
                9991), 10, 0, 1, 2, 3, 4, 5, 6, 7, 8, 9);
        plans(cutting(words, 10, 0, 5, 5, 5, 5, 5, 5, 5, 5, 5, 5), 5,
                0, 0, 1, 1, 2, 2, 3, 3, 4, 4);
    }

    private static void aBarHoldsPieces() {
        String words = "15: lengths and one cut less than they are together do not exceed it";
        plans(cutting(words, 10, 0, 5, 5), 1, 0, 0);
        plans(cutting(words, 9, 0, 5, 5), 2, 0, 1);
        plans(cutting(words, 12, 2, 5, 5), 1, 0, 0);
        plans(cutting(words, 11, 2, 5, 5), 2, 0, 1);
        plans(cutting(words, 210, 100, 5, 5), 1, 0, 0);
        plans(cutting(words, 19, 2, 5, 5, 5), 1, 0, 0, 0);
        plans(cutting(words, 18, 2, 5, 5, 5), 2, 0, 0, 1);
        plans(cutting(words, 910, 100, 1, 1, 1, 1, 1, 1, 1, 1, 1, 1), 1,
                0, 0, 0, 0, 0, 0, 0, 0, 0, 0);
        plans(cutting(words, 909, 100, 1, 1, 1, 1, 1, 1, 1, 1, 1, 1), 2,
                0, 0, 0, 0, 0, 0, 0, 0, 0, 1);
        plans(cutting(words, 10000, 100, 910, 910, 910, 910, 910, 910, 910, 910, 910, 910), 1,
                0, 0, 0, 0, 0, 0, 0, 0, 0, 0);
        plans(cutting(words, 10000, 100, 911, 910, 910, 910, 910, 910, 910, 910, 910, 910), 2,
                0, 0, 0, 0, 0, 0, 0, 0, 0, 1);
    }

    private static void noCutAtTheEnds() {
        String words = "15: a cut is lost between two pieces, not at the ends";
        Sentence s = cutting(words, 100, 7, 100);
        plans(s, 1, 0);
        s.gives(0, "rest", 0);
        s = cutting(words, 100, 7, 99);
        s.gives(1, "rest", 0);
        s = cutting(words, 100, 7, 46, 47);
        plans(s, 1, 0, 0);
        s.gives(0, "rest", 0);
        s = cutting(words, 100, 100, 1, 99);
        plans(s, 2, 0, 1);
        s.gives(99, "rest", 0);
        s.gives(1, "rest", 1);
    }

    private static void theFewestBars() {
        String words = "15: all pieces into the FEWEST bars";
        plans(cutting(words, 10, 0, 3, 3, 4, 6, 7, 7), 3, 0, 1, 2, 2, 0, 1);
        plans(cutting(words, 10, 0, 6, 5, 4, 5), 2, 0, 1, 0, 1);
        plans(cutting(words, 10, 0, 5, 4, 6, 5), 2, 0, 1, 1, 0);
        plans(cutting(words, 100, 1, 55, 44, 33, 66, 22, 77, 11, 49, 50, 88), 5,
                0, 0, 1, 1, 2, 2, 3, 4, 4, 3);
        plans(cutting(words, 12, 0, 6, 2, 2, 2, 4, 4, 4, 6, 3, 3), 3,
                0, 0, 0, 0, 1, 1, 1, 2, 2, 2);
    }

    private static void moreBarsThanTheLengthsFill() {
        String words = "15: all lengths together would fill fewer bars";
        plans(cutting(words, 10, 0, 4, 4, 4, 4, 4), 3, 0, 0, 1, 1, 2);
        plans(cutting(words, 10, 0, 6, 6, 6), 3, 0, 1, 2);
        plans(cutting(words, 10, 0, 3, 3, 3, 3, 3, 5), 3, 0, 0, 0, 1, 1, 2);
        plans(cutting(words, 100, 2, 35, 35, 35, 35, 35, 15), 3, 0, 0, 1, 1, 2, 0);
    }

    // ---- promise 16

    private static void barPiece() {
        Sentence s = cutting("16: there is no such piece", 100, 0);
        for (int i = 0; i < 10; i++) {
            s.badArgument("bar", i);
            s.badArgument("bar", -1);
            s.gives(i, "piece", 100);
            s.gives(i, "bar", i);
        }
        s.outside(0, 0, 9, "bar", 0);
    }

    private static void piece0IntoBar0() {
        String words = "16: piece 0 into bar 0";
        plans(cutting(words, 10, 0, 1, 10), 2, 0, 1);
        plans(cutting(words, 10, 0, 10, 1), 2, 0, 1);
        plans(cutting(words, 10, 0, 1, 10, 9), 2, 0, 1, 0);
        plans(cutting(words, 10, 0, 9, 10, 1), 2, 0, 1, 0);
    }

    private static void theLeastNumberThatIsEnough() {
        String words = "16: each piece into a bar of the least number";
        plans(cutting(words, 10, 0, 6, 3, 3, 1), 2, 0, 0, 1, 0);
        plans(cutting(words, 10, 0, 6, 6, 4, 4), 2, 0, 1, 0, 1);
        plans(cutting(words, 10, 0, 6, 6, 1, 1, 1, 1, 1), 2, 0, 1, 0, 0, 0, 0, 1);
        plans(cutting(words, 10, 0, 9, 8, 7, 1, 1, 1), 3, 0, 1, 2, 0, 1, 1);
        plans(cutting(words, 10, 0, 9, 8, 7, 2, 1, 1), 3, 0, 1, 2, 1, 0, 2);
        plans(cutting(words, 10, 1, 8, 8, 1, 1), 2, 0, 1, 0, 1);
    }

    private static void notTheLeastIfMoreBarsWere() {
        String words = "16: with which so few bars are still enough";
        plans(cutting(words, 10, 0, 5, 4, 6, 5), 2, 0, 1, 1, 0);
        plans(cutting(words, 10, 0, 2, 2, 8, 8), 2, 0, 1, 0, 1);
        plans(cutting(words, 10, 0, 1, 1, 1, 9, 9, 9), 3, 0, 1, 2, 0, 1, 2);
        plans(cutting(words, 10, 0, 5, 3, 3, 4, 5), 2, 0, 1, 1, 1, 0);
        plans(cutting(words, 10, 0, 5, 1, 5, 9), 2, 0, 1, 0, 1);
        plans(cutting(words, 10, 2, 4, 3, 4, 5), 2, 0, 1, 0, 1);
    }

    // ---- promise 17

    private static void noSuchBar() {
        Sentence s = cutting("17: illegal argument: also if there is no such bar", 10, 0);
        for (int i = 0; i < 10; i++) {
            s.badArgument("rest", i);
            s.badArgument("rest", -1);
            s.gives(i, "piece", 9);
            s.gives(1, "rest", i);
        }
        s.outside(0, 0, 9, "rest", 0);
        s = cutting("17: no bar of the number of a piece", 10, 0, 1, 1, 1);
        s.gives(7, "rest", 0);
        s.badArgument("rest", 1);
        s.badArgument("rest", 2);
    }

    private static void noSuchBarWithoutPieces() {
        Sentence s = new Sentence("17: no bar without pieces");
        s.badArgument("rest", 0);
        s.outside(0, 0, 0, "rest", 0);
        s.takes("bars", 5, 5);
        s.badArgument("rest", 0);
    }

    private static void noSuchBarAnyMore() {
        Sentence s = cutting("17: no such bar any more", 10, 0, 6, 6);
        s.gives(4, "rest", 1);
        s.gives(6, "change", 1, 4);
        s.badArgument("rest", 1);
        s.gives(0, "rest", 0);
        s.gives(4, "change", 1, 5);
        s.gives(5, "rest", 1);
        s.takes("bars", 11, 0);
        s.badArgument("rest", 1);
        s.takes("bars", 11, 1);
        s.gives(6, "rest", 1);
    }

    private static void restIsTheWholeLengthLess() {
        String words = "17: the whole length less pieces and cuts between them";
        Sentence s = cutting(words, 100, 10, 30, 30, 20);
        s.gives(0, "rest", 0);
        s = cutting(words, 100, 10, 30, 30, 19);
        s.gives(1, "rest", 0);
        s = cutting(words, 100, 10, 30, 30, 21);
        s.gives(30, "rest", 0);
        s.gives(79, "rest", 1);
        s = cutting(words, 10000, 100, 1, 1, 1, 1, 1, 1, 1, 1, 1, 1);
        s.gives(9090, "rest", 0);
        s = cutting(words, 10000, 0, 1, 1, 1, 1, 1, 1, 1, 1, 1, 1);
        s.gives(9990, "rest", 0);
        s = cutting(words, 10000, 100, 1);
        s.gives(9999, "rest", 0);
        s = cutting(words, 10000, 100, 10000);
        s.gives(0, "rest", 0);
    }
}
