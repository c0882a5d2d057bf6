import java.util.Random;
import java.util.function.LongSupplier;

/** All promises: runs of 512 random calls, right and wrong, give the plain model's answers. */
public final class RandomRunsTest {
    private static final int RUNS = 60;
    /** Nothing is promised about later calls. */
    private static final int CALLS = 512;
    private static final int CALLS_OF_ASK_ALL = 14 * 16;

    private final Random random;
    private final LayerQuantities x = new LayerQuantities();
    private final PlainModel model = new PlainModel();
    /** Bars this long keep the plans of a run near one another, so that ties are many. */
    private final int scale;

    private RandomRunsTest(int seed) {
        random = new Random(seed);
        scale = new int[] {10, 12, 100, 10000}[seed % 4];
    }

    public static void main(String[] args) {
        for (int seed = 0; seed < RUNS; seed++) {
            RandomRunsTest run = new RandomRunsTest(seed);
            boolean asksAll = seed % 8 < 4;
            int calls = asksAll ? CALLS - CALLS_OF_ASK_ALL : CALLS;
            for (int i = 0; i < calls; i++) {
                run.call();
            }
            if (asksAll) {
                run.askAll();
            }
        }
        Check.end();
    }

    private int upTo(int most) {
        return random.nextInt(most + 1);
    }

    /** Mostly within the bounds, now and then at or beyond them. */
    private int near(int least, int most) {
        switch (upTo(59)) {
            case 0: return least - 1;
            case 1: return most + 1;
            case 2: return least;
            case 3: return most;
            case 4: return random.nextInt();
            default: return least + upTo(most - least);
        }
    }

    private int much() {
        return upTo(2) == 0 ? near(1, 1000000000) : near(1, scale * 50);
    }

    private int price() {
        return upTo(2) == 0 ? near(1, 100000) : near(1, 8);
    }

    private void call() {
        int a = near(0, 9);
        int b = near(0, 3);
        int side = near(1, upTo(1) == 0 ? 1000 : 8);
        int side2 = near(1, upTo(1) == 0 ? 1000 : 8);
        int wall = near(0, 11);
        int length = near(1, scale);
        int much = much();
        int price = price();
        switch (upTo(19)) {
            case 0: compare("wall", () -> x.wall(side, side2), () -> model.wall(side, side2)); break;
            case 1: compare("opening", () -> x.opening(wall, side, side2),
                    () -> model.opening(wall, side, side2)); break;
            case 2: compare("layer", () -> x.layer(wall, a, side),
                    () -> model.layer(wall, a, side)); break;
            case 3: int waste = near(0, 100);
                compare("waste", () -> x.waste(a, waste), () -> model.waste(a, waste)); break;
            case 4: compare("told", () -> x.told(wall, b), () -> model.told(wall, b)); break;
            case 5: compare("need", () -> x.need(a), () -> model.need(a)); break;
            case 6: compare("pack", () -> x.pack(a, much, price),
                    () -> model.pack(a, much, price)); break;
            case 7: case 8: compare("bought", () -> x.bought(a, b), () -> model.bought(a, b)); break;
            case 9: compare("cents", () -> x.cents(a), () -> model.cents(a)); break;
            case 10: compare("cents of all", x::cents, model::cents); break;
            default: callOfBars(a, length);
        }
    }

    private void callOfBars(int number, int length) {
        switch (upTo(8)) {
            case 0: int cut = near(0, scale < 100 ? 2 : 100);
                int barLength = upTo(3) == 0 ? length : scale;
                compare("bars", () -> { x.bars(barLength, cut); return 0; },
                        () -> { model.bars(barLength, cut); return 0; }); break;
            case 1: case 2: compare("piece", () -> x.piece(length), () -> model.piece(length)); break;
            case 3: case 4: compare("change", () -> x.change(number, length),
                    () -> model.change(number, length)); break;
            case 5: compare("plan", x::plan, model::plan); break;
            case 6: case 7: compare("bar", () -> x.bar(number), () -> model.bar(number)); break;
            default: compare("rest", () -> x.rest(number), () -> model.rest(number));
        }
    }

    private void askAll() {
        for (int i = -1; i <= 12; i++) {
            int n = i;
            compare("need", () -> x.need(n), () -> model.need(n));
            compare("cents", () -> x.cents(n), () -> model.cents(n));
            compare("bar", () -> x.bar(n), () -> model.bar(n));
            compare("rest", () -> x.rest(n), () -> model.rest(n));
            for (int j = -1; j <= 4; j++) {
                int m = j;
                compare("bought", () -> x.bought(n, m), () -> model.bought(n, m));
                compare("told", () -> x.told(n, m), () -> model.told(n, m));
            }
        }
    }

    private void compare(String call, LongSupplier got, LongSupplier due) {
        String wasGot = answer(got);
        String isDue = answer(due);
        Check.holds(call + " answered " + wasGot + ", due is " + isDue, wasGot.equals(isDue));
    }

    private static String answer(LongSupplier call) {
        try {
            return Long.toString(call.getAsLong());
        } catch (RuntimeException e) {
            return "throws." + e.getClass().getSimpleName();
        }
    }
}
