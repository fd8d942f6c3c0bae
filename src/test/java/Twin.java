import java.util.Arrays;
import java.util.function.Supplier;
import java.util.function.ToIntFunction;

/**
 * Asks a call of objects that are made alike, and compares all that can be seen of them before and after it: the
 * state, each state of the history, the snapshot and the text. For each look an object is made anew, as a look
 * changes what is looked at, and as an object is to be used for 512 calls at most.
 */
final class Twin {
    private static final int HISTORY = 15;
    private static final int MOST_STATES = 5;

    private Twin() {
    }

    /** The call answers so and changes nothing: neither the state nor the history, the snapshot or the text. */
    static void unchanged(String call, Supplier<StormHire> made, ToIntFunction<StormHire> asked, int due) {
        Check.due(call, asked.applyAsInt(made.get()), due);
        Supplier<StormHire> after = after(made, asked);
        int states = made.get().count(HISTORY);
        Check.due(call + " leaves the length of the history", after.get().count(HISTORY), states);
        for (int back = 0; back <= states; back++) {
            Check.holds(call + " leaves the state " + back + " back", same(past(made, back), past(after, back)));
        }
        Check.holds(call + " leaves the snapshot", same(snapshot(made), snapshot(after)));
        Check.holds(call + " leaves the text", same(text(made), text(after)));
    }

    /** The call answers so and records the state that was before it, behind those that were recorded before. */
    static void recorded(String call, Supplier<StormHire> made, ToIntFunction<StormHire> asked, int due) {
        Check.due(call, asked.applyAsInt(made.get()), due);
        Supplier<StormHire> after = after(made, asked);
        int states = made.get().count(HISTORY);
        int kept = Math.min(states, MOST_STATES - 1);
        Check.due(call + " is recorded", after.get().count(HISTORY), kept + 1);
        for (int back = 0; back <= kept; back++) {
            Check.holds(call + " can be undone, " + back + " back", same(past(made, back), past(after, back + 1)));
        }
        StormHire emptied = after.get();
        for (int left = kept; left >= 0; left--) {
            Check.due(call + ": undo()", emptied.undo(), left);
        }
        Check.due(call + ": no more to undo", emptied.undo(), StormHire.NONE);
        Check.holds(call + " leaves the snapshot", same(snapshot(made), snapshot(after)));
        Check.due(call + " leaves the length of the text", after.get().count(16), made.get().count(16));
    }

    /** The call changes what can be seen of the state. */
    static void changes(String call, Supplier<StormHire> made, ToIntFunction<StormHire> asked) {
        Check.holds(call + " changes the state", !same(past(made, 0), past(after(made, asked), 0)));
    }

    static Supplier<StormHire> after(Supplier<StormHire> made, ToIntFunction<StormHire> asked) {
        return () -> {
            StormHire x = made.get();
            asked.applyAsInt(x);
            return x;
        };
    }

    /** The state, as it is after so many undo(). */
    static int[] past(Supplier<StormHire> made, int back) {
        StormHire x = made.get();
        for (int i = 0; i < back; i++) {
            x.undo();
        }
        return state(x);
    }

    /** All that is told of the state; the length of the history is no part of it. */
    static int[] state(StormHire x) {
        int[] told = Check.everything(x);
        told[HISTORY] = 0;
        return told;
    }

    private static int[] snapshot(Supplier<StormHire> made) {
        StormHire x = made.get();
        int answer = x.restore();
        return answer == StormHire.NONE ? new int[] {answer} : join(answer, state(x));
    }

    /** A text cannot be told; what is read from it can. */
    private static int[] text(Supplier<StormHire> made) {
        StormHire x = made.get();
        int answer = x.readSites();
        return join(answer, state(x));
    }

    private static int[] join(int answer, int[] row) {
        int[] joined = Arrays.copyOf(row, row.length + 1);
        joined[row.length] = answer;
        return joined;
    }

    static boolean same(int[] one, int[] other) {
        return Arrays.equals(one, other);
    }
}
