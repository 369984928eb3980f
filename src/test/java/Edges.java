import java.util.ArrayList;
import java.util.List;
import java.util.concurrent.Callable;

/** What the tests at the boundaries share: the sentence that is tested, and calls that are refused. */
abstract class Edges {
    static final String ARGUMENT = "IllegalArgumentException";
    static final String STATE = "IllegalStateException";
    static final String INDEX = "IndexOutOfBoundsException";

    private final Sentences doc;

    Edges(Sentences sentences) {
        doc = sentences;
    }

    /** Makes an object that has come to some state, the same one each time. */
    interface Making {
        SlideMills make();
    }

    interface Call {
        Object on(SlideMills x);
    }

    final void of(int part, String... words) {
        doc.of(part, words);
    }

    final void due(String what, Object due, Callable<?> call) {
        doc.due(what, due, call);
    }

    /** The call throws this, and behind it all is as it would be without it. */
    final void refused(String what, String exception, Making making, Call call) {
        due(what + " is refused", exception, () -> call.on(making.make()));
        due(what + " changes nothing", seenBehind(making, x -> null), () -> seenBehind(making, call));
    }

    final void refusedNumbers(String what, String exception, Making making, NumberCall call, int... numbers) {
        for (int number : numbers) {
            refused(what + " " + number, exception, making, x -> call.on(x, number));
        }
    }

    interface NumberCall {
        Object on(SlideMills x, int number);
    }

    /** The numbers next to a range, and the farthest ones. */
    static int[] outOf(int least, int most) {
        return new int[] {least - 1, most + 1, Integer.MIN_VALUE, Integer.MAX_VALUE};
    }

    /** All that can be seen behind a call: the state, each saved state and the snapshot. */
    static List<String> seenBehind(Making making, Call call) {
        List<String> seen = new ArrayList<>();
        for (int undos = 0; undos <= 7; undos++) {
            SlideMills x = making.make();
            Checks.answer(() -> call.on(x));
            for (int i = 0; i < undos; i++) {
                seen.add("undo " + Checks.answer(x::undo));
            }
            seen.add(seen(x));
        }
        SlideMills x = making.make();
        Checks.answer(() -> call.on(x));
        seen.add("restore " + Checks.answer(x::restore));
        seen.add(seen(x));
        return seen;
    }

    /** The state and the buffer. Prices are looked at last, as only a change tells them. */
    static String seen(SlideMills x) {
        String first = Mills.textOf(x) + " " + Mills.sackOf(x) + " " + x.window() + " " + x.shortest() + " "
                + x.longest() + " " + x.savedStates() + " " + Checks.answer(x::stoppedPart) + " "
                + Checks.answer(x::whyStopped) + " " + x.digest() + " " + x.firstError();
        return first + " " + x.setLetterPrice(1) + " " + x.setRepeatPrice(1) + " " + x.clearBuffer();
    }
}
