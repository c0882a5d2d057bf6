import java.util.ArrayList;
import java.util.List;

/**
 * The document's words in their plainest form, slow: every purchase and every plan is looked at.
 * The random runs compare the class with it.
 */
final class PlainModel {
    private final List<int[]> walls = new ArrayList<>();
    private final List<List<int[]>> openings = new ArrayList<>();
    private final List<List<int[]>> layers = new ArrayList<>();
    private final int[] wastes = new int[10];
    private final List<List<int[]>> packs = new ArrayList<>();
    private int barLength = 10000;
    private int cut = 0;
    private final List<Integer> pieces = new ArrayList<>();

    private final long[][] purchases = new long[10][];
    private final String[] purchasesFor = new String[10];
    private int[] plan;
    private String planFor = "";

    PlainModel() {
        for (int i = 0; i < 10; i++) {
            packs.add(new ArrayList<>());
        }
    }

    private static void argument(boolean good) {
        if (!good) {
            throw new IllegalArgumentException();
        }
    }

    private static void state(boolean good) {
        if (!good) {
            throw new IllegalStateException();
        }
    }

    private static boolean in(int value, int least, int most) {
        return least <= value && value <= most;
    }

    int wall(int length, int height) {
        argument(in(length, 1, 1000) && in(height, 1, 1000));
        state(walls.size() < 12);
        walls.add(new int[] {length, height});
        openings.add(new ArrayList<>());
        layers.add(new ArrayList<>());
        return walls.size() - 1;
    }

    private int area(int wall) {
        int area = walls.get(wall)[0] * walls.get(wall)[1];
        for (int[] o : openings.get(wall)) {
            area -= o[0] * o[1];
        }
        return area;
    }

    int opening(int wall, int width, int height) {
        argument(in(wall, 0, walls.size() - 1) && in(width, 1, 1000) && in(height, 1, 1000));
        state(openings.get(wall).size() < 6 && area(wall) >= width * height);
        openings.get(wall).add(new int[] {width, height});
        return area(wall);
    }

    int layer(int wall, int stuff, int thickness) {
        argument(in(wall, 0, walls.size() - 1) && in(stuff, 0, 9) && in(thickness, 1, 500));
        state(layers.get(wall).size() < 8);
        layers.get(wall).add(new int[] {stuff, thickness});
        return layers.get(wall).size();
    }

    int waste(int stuff, int hundredths) {
        argument(in(stuff, 0, 9) && in(hundredths, 0, 100));
        int was = wastes[stuff];
        wastes[stuff] = hundredths;
        return was;
    }

    int told(int wall, int what) {
        argument(in(wall, 0, walls.size() - 1) && in(what, 0, 2));
        int thickness = 0;
        for (int[] l : layers.get(wall)) {
            thickness += l[1];
        }
        return new int[] {area(wall), thickness, openings.get(wall).size()}[what];
    }

    long need(int stuff) {
        argument(in(stuff, 0, 9));
        long sum = 0;
        for (int w = 0; w < walls.size(); w++) {
            for (int[] l : layers.get(w)) {
                sum += l[0] == stuff ? (long) l[1] * area(w) : 0;
            }
        }
        long hundredfold = sum * (100 + wastes[stuff]);
        return hundredfold / 100 + (hundredfold % 100 == 0 ? 0 : 1);
    }

    int pack(int stuff, int much, int cents) {
        argument(in(stuff, 0, 9) && in(much, 1, 1000000000) && in(cents, 1, 100000));
        state(packs.get(stuff).size() < 4);
        packs.get(stuff).add(new int[] {much, cents});
        return packs.get(stuff).size() - 1;
    }

    int bought(int stuff, int pack) {
        argument(in(stuff, 0, 9) && in(pack, 0, packs.get(stuff).size() - 1));
        long[] bought = purchase(stuff);
        return bought == null ? -1 : (int) bought[2 + pack];
    }

    long cents(int stuff) {
        argument(in(stuff, 0, 9));
        long[] bought = purchase(stuff);
        return bought == null ? -1 : bought[0];
    }

    long cents() {
        long sum = 0;
        for (int s = 0; s < 10; s++) {
            if (cents(s) == -1) {
                return -1;
            }
            sum += cents(s);
        }
        return sum;
    }

    /** Price, count and the numbers of the packages 0 .. 3; null if there is nothing to buy. */
    private long[] purchase(int stuff) {
        long need = need(stuff);
        StringBuilder key = new StringBuilder().append(need);
        long[] much = new long[4];
        long[] cents = new long[4];
        int[] most = new int[4];
        for (int k = 0; k < packs.get(stuff).size(); k++) {
            much[k] = packs.get(stuff).get(k)[0];
            cents[k] = packs.get(stuff).get(k)[1];
            most[k] = 60;
            key.append(' ').append(much[k]).append('/').append(cents[k]);
        }
        if (!key.toString().equals(purchasesFor[stuff])) {
            purchasesFor[stuff] = key.toString();
            purchases[stuff] = bestOfAll(need, much, cents, most);
        }
        return purchases[stuff];
    }

    private static long[] bestOfAll(long need, long[] much, long[] cents, int[] most) {
        long[] best = null;
        for (int a = 0; a <= most[0]; a++) {
            for (int b = 0; b <= most[1] && a + b <= 60; b++) {
                for (int c = 0; c <= most[2] && a + b + c <= 60; c++) {
                    for (int d = 0; d <= most[3] && a + b + c + d <= 60; d++) {
                        if (a * much[0] + b * much[1] + c * much[2] + d * much[3] < need) {
                            continue;
                        }
                        long price = a * cents[0] + b * cents[1] + c * cents[2] + d * cents[3];
                        if (best == null || price <= best[0]) {
                            best = better(best, new long[] {price, a + b + c + d, a, b, c, d});
                        }
                    }
                }
            }
        }
        return best;
    }

    private static long[] better(long[] one, long[] other) {
        if (one == null) {
            return other;
        }
        for (int i = 0; i < 6; i++) {
            if (one[i] != other[i]) {
                boolean less = one[i] < other[i];
                return less == (i < 2) ? one : other;
            }
        }
        return one;
    }

    void bars(int length, int itsCut) {
        argument(in(length, 1, 10000) && in(itsCut, 0, 100));
        for (int p : pieces) {
            state(p <= length);
        }
        barLength = length;
        cut = itsCut;
    }

    int piece(int length) {
        argument(in(length, 1, barLength));
        state(pieces.size() < 10);
        pieces.add(length);
        return pieces.size() - 1;
    }

    int change(int piece, int length) {
        argument(in(piece, 0, pieces.size() - 1) && in(length, 1, barLength));
        return pieces.set(piece, length);
    }

    int plan() {
        return barsOf(thePlan());
    }

    int bar(int piece) {
        argument(in(piece, 0, pieces.size() - 1));
        return thePlan()[piece];
    }

    int rest(int bar) {
        argument(in(bar, 0, plan() - 1));
        return restOf(thePlan(), bar);
    }

    private int restOf(int[] barOf, int bar) {
        int rest = barLength;
        int held = 0;
        for (int i = 0; i < barOf.length; i++) {
            if (barOf[i] == bar) {
                rest -= pieces.get(i) + (held > 0 ? cut : 0);
                held++;
            }
        }
        return rest;
    }

    private static int barsOf(int[] barOf) {
        int bars = 0;
        for (int b : barOf) {
            bars = Math.max(bars, b + 1);
        }
        return bars;
    }

    private int[] thePlan() {
        String key = barLength + " " + cut + " " + pieces;
        if (!key.equals(planFor)) {
            planFor = key;
            plan = null;
            lookAtPlans(new int[pieces.size()], 0, 0);
        }
        return plan;
    }

    /** Looks at all plans, those with earlier bars for earlier pieces first. */
    private void lookAtPlans(int[] barOf, int piece, int bars) {
        if (piece == barOf.length) {
            if (holdAll(barOf, bars) && (plan == null || bars < barsOf(plan))) {
                plan = barOf.clone();
            }
            return;
        }
        for (int b = 0; b <= bars; b++) {
            barOf[piece] = b;
            lookAtPlans(barOf, piece + 1, Math.max(bars, b + 1));
        }
    }

    private boolean holdAll(int[] barOf, int bars) {
        for (int b = 0; b < bars; b++) {
            if (restOf(barOf, b) < 0) {
                return false;
            }
        }
        return true;
    }
}
