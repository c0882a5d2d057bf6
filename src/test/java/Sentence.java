import java.util.ArrayList;
import java.util.List;

/**
 * A test of one sentence of the document: calls on a new object, each with the answer that is due.
 * Every refused call is looked at twice more: what can be asked of the object answers behind it as
 * before it, and the object goes on like one on which the refused call was never made.
 */
final class Sentence {
    /** The document promises nothing about later calls, so no test may make them. */
    private static final int MOST_CALLS = 512;
    private static final List<Call> QUESTIONS = questions();
    private static final List<Call> NEXT_CALLS = nextCalls();

    private final String words;
    private final LayerQuantities object = new LayerQuantities();
    private final PlainModel model = new PlainModel();
    private final List<Call> taken = new ArrayList<>();
    private int calls;

    Sentence(String words) {
        this.words = words;
    }

    /** A call that is taken, and its answer. */
    void gives(long answer, String name, int... numbers) {
        Call call = new Call(name, numbers);
        due(call, Long.toString(answer));
        taken.add(call);
    }

    /** A call of bars(), which has no answer. */
    void takes(String name, int... numbers) {
        Call call = new Call(name, numbers);
        due(call, "null");
        taken.add(call);
    }

    /** A call that an IllegalArgumentException refuses. */
    void badArgument(String name, int... numbers) {
        refused(new Call(name, numbers), Call.BAD_ARGUMENT);
    }

    /** A call that an IllegalStateException refuses. */
    void badState(String name, int... numbers) {
        refused(new Call(name, numbers), Call.BAD_STATE);
    }

    /** The call with numbers just and far outside the bounds in one place is refused. */
    void outside(int place, int least, int most, String name, int... numbers) {
        int[] tried = {least - 1, most + 1, -most - 1, Integer.MIN_VALUE, Integer.MAX_VALUE,
            least + 256, least + 65536, least + 0x40000000, most - 0x40000000};
        for (int number : tried) {
            if (number < least || number > most) {
                int[] wrong = numbers.clone();
                wrong[place] = number;
                badArgument(name, wrong);
            }
        }
    }

    /** A call of whatever answer: it is the model's, which knows the order of exceptions. */
    void asTheModel(String name, int... numbers) {
        Call call = new Call(name, numbers);
        PlainModel plain = new PlainModel();
        for (Call earlier : taken) {
            earlier.on(plain);
        }
        String answer = call.on(plain);
        Check.equal(words + ": " + call, call.on(again()), answer);
        if (answer.startsWith("throws.")) {
            answersAsBefore(call);
            goesOnAsWithout(call);
        }
    }

    private void due(Call call, String answer) {
        calls++;
        Check.holds(words + ": a test of more than 512 calls", calls <= MOST_CALLS);
        Check.equal(words + ": " + call, call.on(object), answer);
        Check.equal(words + ": the model's " + call, call.on(model), answer);
    }

    private void refused(Call call, String answer) {
        due(call, answer);
        answersAsBefore(call);
        goesOnAsWithout(call);
    }

    private void answersAsBefore(Call call) {
        LayerQuantities x = again();
        List<String> before = answers(QUESTIONS, x);
        call.on(x);
        List<String> behind = answers(QUESTIONS, x);
        Check.holds(words + ": a test of more than 512 calls",
                taken.size() + 2 * QUESTIONS.size() + 1 <= MOST_CALLS);
        compare("behind the refused " + call, QUESTIONS, behind, before);
    }

    private void goesOnAsWithout(Call call) {
        LayerQuantities x = again();
        call.on(x);
        LayerQuantities without = again();
        Check.holds(words + ": a test of more than 512 calls",
                taken.size() + 1 + NEXT_CALLS.size() <= MOST_CALLS);
        compare("later, with the refused " + call, NEXT_CALLS,
                answers(NEXT_CALLS, x), answers(NEXT_CALLS, without));
    }

    private LayerQuantities again() {
        LayerQuantities x = new LayerQuantities();
        for (Call call : taken) {
            call.on(x);
        }
        return x;
    }

    private static List<String> answers(List<Call> calls, LayerQuantities x) {
        List<String> answers = new ArrayList<>();
        for (Call call : calls) {
            answers.add(call.on(x));
        }
        return answers;
    }

    private void compare(String when, List<Call> calls, List<String> got, List<String> due) {
        for (int i = 0; i < calls.size(); i++) {
            Check.equal(words + ": " + when + ", " + calls.get(i), got.get(i), due.get(i));
        }
    }

    /** All that can be asked without a change. */
    private static List<Call> questions() {
        List<Call> calls = new ArrayList<>();
        for (int wall = 0; wall < 12; wall++) {
            for (int what = 0; what < 3; what++) {
                calls.add(new Call("told", wall, what));
            }
        }
        for (int stuff = 0; stuff < 10; stuff++) {
            calls.add(new Call("need", stuff));
            calls.add(new Call("cents", stuff));
            for (int pack = 0; pack < 4; pack++) {
                calls.add(new Call("bought", stuff, pack));
            }
        }
        calls.add(new Call("cents"));
        calls.add(new Call("plan"));
        for (int i = 0; i < 10; i++) {
            calls.add(new Call("bar", i));
            calls.add(new Call("rest", i));
        }
        return calls;
    }

    /** Calls that show by their answers what no question tells: wastes, lengths, what is full. */
    private static List<Call> nextCalls() {
        List<Call> calls = new ArrayList<>();
        for (int stuff = 0; stuff < 10; stuff++) {
            calls.add(new Call("waste", stuff, 3));
            calls.add(new Call("pack", stuff, 2, 3));
        }
        calls.add(new Call("wall", 3, 3));
        for (int wall = 0; wall < 12; wall++) {
            calls.add(new Call("opening", wall, 1, 1));
            calls.add(new Call("layer", wall, wall % 10, 1));
        }
        calls.add(new Call("piece", 1));
        for (int piece = 0; piece < 10; piece++) {
            calls.add(new Call("change", piece, 1));
        }
        calls.addAll(questions());
        return calls;
    }
}
