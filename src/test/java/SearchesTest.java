import java.util.Random;

/** Promises 9, 10, 15 to 17: small numbers, so that many purchases and plans tie. */
public final class SearchesTest {
    public static void main(String[] args) {
        Random random = new Random(7);
        for (int i = 0; i < 800; i++) {
            purchase(random, 1 + i % 4);
        }
        for (int i = 0; i < 800; i++) {
            plan(random, i % 20 == 0 ? 10 : 1 + i % 8);
        }
        Check.end();
    }

    private static void purchase(Random random, int kinds) {
        LayerQuantities x = new LayerQuantities();
        PlainModel model = new PlainModel();
        int length = 1 + random.nextInt(random.nextBoolean() ? 40 : 600);
        x.wall(length, 1);
        model.wall(length, 1);
        x.layer(0, 4, 1);
        model.layer(0, 4, 1);
        boolean fair = random.nextBoolean();
        for (int kind = 0; kind < kinds; kind++) {
            int much = 1 + random.nextInt(15);
            int cents = fair ? much + random.nextInt(2) : 1 + random.nextInt(6);
            x.pack(4, much, cents);
            model.pack(4, much, cents);
            Check.same("cents for " + length, x.cents(4), model.cents(4));
            for (int asked = 0; asked <= kind; asked++) {
                Check.same("bought for " + length, x.bought(4, asked), model.bought(4, asked));
            }
        }
    }

    private static void plan(Random random, int pieces) {
        LayerQuantities x = new LayerQuantities();
        PlainModel model = new PlainModel();
        int barLength = 5 + random.nextInt(20);
        int cut = random.nextInt(3);
        int longest = random.nextBoolean() ? barLength : barLength / 2 + 1;
        x.bars(barLength, cut);
        model.bars(barLength, cut);
        for (int i = 0; i < pieces; i++) {
            int length = 1 + random.nextInt(longest);
            x.piece(length);
            model.piece(length);
        }
        Check.same("plan", x.plan(), model.plan());
        for (int i = 0; i < pieces; i++) {
            Check.same("bar", x.bar(i), model.bar(i));
        }
        for (int bar = 0; bar < x.plan(); bar++) {
            Check.same("rest", x.rest(bar), model.rest(bar));
        }
    }
}
