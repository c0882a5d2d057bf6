import java.util.Arrays;

/**
 * What a house's walls need: layers of stuffs by areas less their openings, packages that cost
 * least for what is needed, pieces cut from the fewest bars, exactly, and what is left of them.
 */
public final class LayerQuantities {
    /** There is none. */
    public static final int NONE = -1;

    private static final int MOST_WALLS = 12;
    private static final int MOST_OPENINGS = 6;
    private static final int MOST_LAYERS = 8;
    private static final int LONGEST_SIDE = 1000;
    private static final int THICKEST_LAYER = 500;
    private static final int AREA = 0;
    private static final int THICKNESS = 1;
    private static final int OPENINGS = 2;

    private static final int STUFFS = 10;
    private static final int MOST_WASTE = 100;
    private static final int MOST_PACKS = 4;
    private static final int MOST_IN_PACK = 1000000000;
    private static final int DEAREST_PACK = 100000;
    private static final int MOST_BOUGHT = 60;
    private static final int TOO_DEAR = MOST_BOUGHT * DEAREST_PACK + 1;

    private static final int LONGEST_BAR = 10000;
    private static final int WIDEST_CUT = 100;
    private static final int MOST_PIECES = 10;

    private final Wall[] walls;
    private int wallCount;
    private final int[] wastes;
    private final Shelf[] shelves;
    private final Saw saw;

    public LayerQuantities() {
        walls = new Wall[MOST_WALLS];
        for (int i = 0; i < walls.length; i++) {
            walls[i] = new Wall();
        }
        wastes = new int[STUFFS];
        shelves = new Shelf[STUFFS];
        for (int i = 0; i < shelves.length; i++) {
            shelves[i] = new Shelf();
        }
        saw = new Saw();
    }

    /** A wall: its number. */
    public int wall(int length, int height)
            throws IllegalArgumentException, IllegalStateException {
        checkBounds(length, 1, LONGEST_SIDE);
        checkBounds(height, 1, LONGEST_SIDE);
        checkSpace(wallCount, MOST_WALLS);
        walls[wallCount].area = length * height;
        wallCount++;
        return wallCount - 1;
    }

    /** An opening in a wall: the wall's area then. */
    public int opening(int wall, int width, int height)
            throws IllegalArgumentException, IllegalStateException {
        checkNumber(wall, wallCount);
        checkBounds(width, 1, LONGEST_SIDE);
        checkBounds(height, 1, LONGEST_SIDE);
        Wall pierced = walls[wall];
        checkSpace(pierced.openingCount, MOST_OPENINGS);
        if (width * height > pierced.area) {
            throw new IllegalStateException("the wall's area would come below 0");
        }
        pierced.area -= width * height;
        pierced.openingCount++;
        return pierced.area;
    }

    /** A layer behind a wall's others: how many it has. */
    public int layer(int wall, int stuff, int thickness)
            throws IllegalArgumentException, IllegalStateException {
        checkNumber(wall, wallCount);
        checkNumber(stuff, STUFFS);
        checkBounds(thickness, 1, THICKEST_LAYER);
        Wall covered = walls[wall];
        checkSpace(covered.layerCount, MOST_LAYERS);
        covered.thicknessOf[stuff] += thickness;
        covered.layerCount++;
        return covered.layerCount;
    }

    /** A stuff's waste in hundredths: what it was. */
    public int waste(int stuff, int hundredths) throws IllegalArgumentException {
        checkNumber(stuff, STUFFS);
        checkBounds(hundredths, 0, MOST_WASTE);
        int before = wastes[stuff];
        wastes[stuff] = hundredths;
        return before;
    }

    /** A wall's area (0), thickness of all layers together (1), how many openings (2). */
    public int told(int wall, int what) throws IllegalArgumentException {
        checkNumber(wall, wallCount);
        checkBounds(what, AREA, OPENINGS);
        Wall asked = walls[wall];
        if (what == AREA) {
            return asked.area;
        }
        return what == THICKNESS ? asked.wholeThickness() : asked.openingCount;
    }

    /** How much of a stuff all its layers need, with its waste. */
    public long need(int stuff) throws IllegalArgumentException {
        checkNumber(stuff, STUFFS);
        long sum = 0;
        for (int i = 0; i < wallCount; i++) {
            sum += (long) walls[i].area * walls[i].thicknessOf[stuff];
        }
        return ratioRoundedUp(sum * (100 + wastes[stuff]), 100);
    }

    // ---- packages

    /** A package of a stuff: its number. */
    public int pack(int stuff, int much, int cents)
            throws IllegalArgumentException, IllegalStateException {
        checkNumber(stuff, STUFFS);
        checkBounds(much, 1, MOST_IN_PACK);
        checkBounds(cents, 1, DEAREST_PACK);
        checkSpace(shelves[stuff].kinds, MOST_PACKS);
        return shelves[stuff].stock(much, cents);
    }

    /** How many of a package are bought; NONE if there is nothing to buy. */
    public int bought(int stuff, int pack) throws IllegalArgumentException {
        checkNumber(stuff, STUFFS);
        checkNumber(pack, shelves[stuff].kinds);
        return shelves[stuff].countFor(need(stuff), pack);
    }

    /** What is bought of a stuff costs; NONE if there is nothing to buy. */
    public long cents(int stuff) throws IllegalArgumentException {
        checkNumber(stuff, STUFFS);
        return shelves[stuff].priceFor(need(stuff));
    }

    /** What is bought of all stuffs costs; NONE if of one there is nothing to buy. */
    public long cents() {
        long sum = 0;
        for (int stuff = 0; stuff < STUFFS; stuff++) {
            long price = cents(stuff);
            if (price == NONE) {
                return NONE;
            }
            sum += price;
        }
        return sum;
    }

    // ---- bars

    /** The bars: their length, and what a cut between two pieces loses. */
    public void bars(int length, int cut) throws IllegalArgumentException, IllegalStateException {
        checkBounds(length, 1, LONGEST_BAR);
        checkBounds(cut, 0, WIDEST_CUT);
        if (saw.longestPiece() > length) {
            throw new IllegalStateException("a piece is longer");
        }
        saw.takeBars(length, cut);
    }

    /** A piece: its number. */
    public int piece(int length) throws IllegalArgumentException, IllegalStateException {
        checkBounds(length, 1, saw.barLength);
        checkSpace(saw.pieceCount, MOST_PIECES);
        return saw.addPiece(length);
    }

    /** A piece has another length: what it had. */
    public int change(int piece, int length) throws IllegalArgumentException {
        checkNumber(piece, saw.pieceCount);
        checkBounds(length, 1, saw.barLength);
        return saw.resizePiece(piece, length);
    }

    /** How many bars the plan has. */
    public int plan() {
        saw.makePlan();
        return saw.barCount;
    }

    /** In which bar a piece is in the plan. */
    public int bar(int piece) throws IllegalArgumentException {
        checkNumber(piece, saw.pieceCount);
        saw.makePlan();
        return saw.barOf[piece];
    }

    /** How long the rest of a bar of the plan is. */
    public int rest(int bar) throws IllegalArgumentException {
        saw.makePlan();
        checkNumber(bar, saw.barCount);
        return saw.free[bar];
    }

    private static void checkBounds(int value, int least, int most) {
        if (value < least || value > most) {
            throw new IllegalArgumentException("a number is out of its bounds");
        }
    }

    private static void checkNumber(int number, int count) {
        if (number < 0 || number >= count) {
            throw new IllegalArgumentException("there is nothing of this number");
        }
    }

    private static void checkSpace(int count, int most) {
        if (count >= most) {
            throw new IllegalStateException("there are as many as there may be");
        }
    }

    private static long ratioRoundedUp(long value, int divisor) {
        return divisor <= 0 ? 0 : (value + divisor - 1) / divisor;
    }

    /** One wall. The order of its layers changes no answer, so only sums are kept. */
    private static final class Wall {
        private int area;
        private int openingCount;
        private int layerCount;
        private final int[] thicknessOf = new int[STUFFS];

        private int wholeThickness() {
            int sum = 0;
            for (int i = 0; i < thicknessOf.length; i++) {
                sum += thicknessOf[i];
            }
            return sum;
        }
    }

    /** The packages of one stuff, and the purchase that was searched last. */
    private static final class Shelf {
        private int kinds;
        private final int[] much = new int[MOST_PACKS];
        private final int[] price = new int[MOST_PACKS];
        /** Of each kind and those behind it, the one that holds most. */
        private final int[] biggest = new int[MOST_PACKS];
        /** Of each kind and those behind it, the one that costs least for what it holds. */
        private final int[] cheapest = new int[MOST_PACKS];

        private final int[] tried = new int[MOST_PACKS];
        private final int[] best = new int[MOST_PACKS];
        private int bestPrice;
        private int bestCount;
        /** The need that the best purchase was searched for; no need is NONE. */
        private long searchedFor = NONE;

        /** Adds a package, for which there must be space. */
        private int stock(int itsMuch, int itsPrice) {
            much[kinds] = itsMuch;
            price[kinds] = itsPrice;
            kinds++;
            searchedFor = NONE;
            rankFromBehind();
            return kinds - 1;
        }

        private void rankFromBehind() {
            int big = kinds - 1;
            int cheap = kinds - 1;
            for (int kind = kinds - 1; kind >= 0; kind--) {
                if (much[kind] > much[big]) {
                    big = kind;
                }
                if ((long) price[kind] * much[cheap] < (long) price[cheap] * much[kind]) {
                    cheap = kind;
                }
                biggest[kind] = big;
                cheapest[kind] = cheap;
            }
        }

        private int countFor(long need, int kind) {
            search(need);
            return bestPrice == TOO_DEAR ? NONE : best[kind];
        }

        private int priceFor(long need) {
            search(need);
            return bestPrice == TOO_DEAR ? NONE : bestPrice;
        }

        private void search(long need) {
            if (need == searchedFor) {
                return;
            }
            searchedFor = need;
            bestPrice = priceOfOneKind(need);
            bestCount = MOST_BOUGHT + 1;
            Arrays.fill(tried, 0);
            tryKind(0, need, 0, 0);
        }

        /**
         * The least price of packages of one kind, a bound for the search to begin with. If no
         * kind alone is enough, then all kinds together are not: the biggest would be.
         */
        private int priceOfOneKind(long need) {
            long least = TOO_DEAR;
            for (int kind = 0; kind < kinds; kind++) {
                long count = ratioRoundedUp(need, much[kind]);
                if (count <= MOST_BOUGHT) {
                    least = Math.min(least, count * price[kind]);
                }
            }
            return (int) least;
        }

        /**
         * Tries all numbers of a kind with all of those behind it. The most comes first, so that
         * of purchases of one price and count the first that is found is the one to keep.
         */
        private void tryKind(int kind, long missing, int count, int cost) {
            if (missing <= 0) {
                keepIfBetter(count, cost);
                return;
            }
            if (kind >= kinds || isHopeless(kind, missing, count, cost)) {
                return;
            }
            long enough = ratioRoundedUp(missing, much[kind]);
            int most = (int) Math.min(enough, MOST_BOUGHT - count);
            int least = kind == kinds - 1 ? most : 0;
            for (int n = most; n >= least; n--) {
                tried[kind] = n;
                tryKind(kind + 1, missing - (long) n * much[kind], count + n,
                        cost + n * price[kind]);
            }
            tried[kind] = 0;
        }

        /** Whether what is missing cannot come, or not at a better price and count, from here. */
        private boolean isHopeless(int kind, long missing, int count, int cost) {
            long countAtLeast = count + ratioRoundedUp(missing, much[biggest[kind]]);
            if (countAtLeast > MOST_BOUGHT) {
                return true;
            }
            int cheap = cheapest[kind];
            long costAtLeast = cost + ratioRoundedUp(missing * price[cheap], much[cheap]);
            return !isBetter(countAtLeast, costAtLeast);
        }

        private boolean isBetter(long count, long cost) {
            return cost < bestPrice || cost == bestPrice && count < bestCount;
        }

        private void keepIfBetter(int count, int cost) {
            if (isBetter(count, cost)) {
                bestCount = count;
                bestPrice = cost;
                System.arraycopy(tried, 0, best, 0, MOST_PACKS);
            }
        }
    }

    /**
     * The bars, the pieces and the plan. A cut is counted behind every piece, and every bar is
     * taken as one cut longer: so the last piece's cut, which is not made, costs nothing.
     */
    private static final class Saw {
        private int barLength = LONGEST_BAR;
        private int cut;
        private int pieceCount;
        private final int[] lengths = new int[MOST_PIECES];

        private boolean planned;
        private int barCount;
        private final int[] barOf = new int[MOST_PIECES];
        private final int[] free = new int[MOST_PIECES];
        /** Of each piece and those behind it: all their lengths and cuts together. */
        private final int[] load = new int[MOST_PIECES];
        /** Of each piece and those behind it: the least length with its cut. */
        private final int[] smallest = new int[MOST_PIECES];

        private int longestPiece() {
            int longest = 0;
            for (int i = 0; i < pieceCount; i++) {
                longest = Math.max(longest, lengths[i]);
            }
            return longest;
        }

        private void takeBars(int length, int itsCut) {
            barLength = length;
            cut = itsCut;
            planned = false;
        }

        /** Adds a piece, for which there must be space. */
        private int addPiece(int length) {
            lengths[pieceCount] = length;
            pieceCount++;
            planned = false;
            return pieceCount - 1;
        }

        private int resizePiece(int piece, int length) {
            int before = lengths[piece];
            lengths[piece] = length;
            planned = false;
            return before;
        }

        /** Tries more and more bars; as many as there are pieces are always enough. */
        private void makePlan() {
            if (planned) {
                return;
            }
            planned = true;
            sumFromBehind();
            barCount = 0;
            while (!placeAll() && barCount < pieceCount) {
                barCount++;
            }
        }

        private void sumFromBehind() {
            int sum = 0;
            int least = barLength + cut;
            for (int i = pieceCount - 1; i >= 0; i--) {
                sum += lengths[i] + cut;
                least = Math.min(least, lengths[i] + cut);
                load[i] = sum;
                smallest[i] = least;
            }
        }

        private boolean placeAll() {
            Arrays.fill(free, barLength + cut);
            return placeFrom(0);
        }

        /** Puts a piece and those behind it into the bars of the least numbers that are enough. */
        private boolean placeFrom(int piece) {
            if (piece >= pieceCount) {
                return true;
            }
            if (load[piece] > usable(smallest[piece])) {
                return false;
            }
            int size = lengths[piece] + cut;
            for (int bar = 0; bar < barCount; bar++) {
                if (free[bar] >= size && !isLikeEarlier(bar)) {
                    free[bar] -= size;
                    barOf[piece] = bar;
                    if (placeFrom(piece + 1)) {
                        return true;
                    }
                    free[bar] += size;
                }
            }
            return false;
        }

        /** What is free in those bars that still hold a piece of the size. */
        private int usable(int size) {
            int sum = 0;
            for (int bar = 0; bar < barCount; bar++) {
                sum += free[bar] >= size ? free[bar] : 0;
            }
            return sum;
        }

        /** A bar with as much free as an earlier one fails where the earlier one failed. */
        private boolean isLikeEarlier(int bar) {
            for (int earlier = 0; earlier < bar; earlier++) {
                if (free[earlier] == free[bar]) {
                    return true;
                }
            }
            return false;
        }
    }
}
