import java.util.ArrayList;
import java.util.List;

/**
 * A run of calls on a new object, made to test one sentence of the document. Every call that answers an error or that
 * only looks is also checked to have left everything as it was.
 */
final class Run {
    private static final int INVALID = -1;

    private final Checks checks;
    private final String sentence;
    private final SealedStores x = new SealedStores();
    private final List<Call> calls = new ArrayList<>();
    /** All that is told of the present state, or null if nobody has looked since the last change. */
    private List<Integer> told;
    /** After a wrong answer the rest of the run tells nothing new. */
    private boolean wrong;

    Run(Checks checks, String sentence) {
        this.checks = checks;
        this.sentence = sentence;
    }

    /** Calls that lead to the state in which the sentence is tested; none of them may fail. */
    Run after(String... written) {
        for (String call : written) {
            int answer = make(new Call(call));
            holds(answer >= 0, "ahead of the test " + call + " answered " + answer);
        }
        return this;
    }

    Run times(int number, String... written) {
        for (int i = 0; i < number; i++) {
            after(written);
        }
        return this;
    }

    /** Puts this text in the place of the one that was there. */
    Run types(String text) {
        after("clearText()");
        for (int i = 0; i < text.length(); i++) {
            after("type(" + (int) text.charAt(i) + ")");
        }
        return this;
    }

    Run due(String written, int answer) {
        Call call = new Call(written);
        boolean still = answer < 0 || call.looks();
        List<Integer> before = still ? everything() : null;
        int got = make(call);
        holds(got == answer, written + " answered " + got + ", due is " + answer);
        if (still) {
            holds(everything().equals(before), written + " left not everything as it was");
        }
        return this;
    }

    /** The call with the numbers beside the range in the place of its #: all of them are invalid arguments. */
    Run beside(String written, int least, int most) {
        int[] outside = {least - 1, most + 1, Integer.MIN_VALUE, Integer.MAX_VALUE};
        for (int argument : outside) {
            due(written.replace("#", String.valueOf(argument)), INVALID);
        }
        return this;
    }

    /** A fault with its position, its reason and its cause, so that the text cannot be played. */
    Run faulty(String text, int position, int reason, int cause) {
        types(text);
        return due("fault(0)", position).due("fault(1)", reason).due("fault(2)", cause).due("play()", -2);
    }

    /** A change that is undone: everything is as it was. Only for histories that are not full. */
    Run undone(String change, int answer) {
        int states = make(new Call("count(9)"));
        List<Integer> before = everything();
        due(change, answer).due("count(9)", states + 1).due("undo()", states);
        holds(everything().equals(before), change + " was not undone wholly");
        return this;
    }

    private int make(Call call) {
        int answer = call.on(x);
        calls.add(call);
        told = null;
        return answer;
    }

    private List<Integer> everything() {
        if (told == null) {
            told = Look.everything(calls);
        }
        return told;
    }

    private void holds(boolean condition, String what) {
        if (!wrong) {
            checks.holds(condition, condition ? "" : sentence + " -- " + what + " -- the calls:" + tellCalls());
        }
        wrong |= !condition;
    }

    private String tellCalls() {
        StringBuilder text = new StringBuilder();
        int same = 1;
        for (int i = 0; i < calls.size(); i++) {
            String call = calls.get(i).toString();
            if (i + 1 < calls.size() && calls.get(i + 1).toString().equals(call)) {
                same++;
                continue;
            }
            text.append(' ').append(same > 1 ? same + " x " : "").append(call);
            same = 1;
        }
        return text.toString();
    }
}
