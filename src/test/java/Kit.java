import java.util.Objects;
import java.util.StringJoiner;
import java.util.function.Consumer;
import java.util.function.Supplier;

/** What the tests share: telling wrong answers, and making and telling of rows. */
final class Kit {
    private static final int MOST_SAVED = 4;
    private static int right = 0;
    private static int wrong = 0;
    private static String sentence = "";

    private Kit() {
    }

    /** Names the sentence of the document that the answers from here on are about. */
    static void about(String words) {
        sentence = "[" + words + "] ";
    }

    static void due(String call, long got, long want) {
        due(call, Long.toString(got), Long.toString(want));
    }

    static void due(String call, String got, String want) {
        if (Objects.equals(got, want)) {
            right++;
        } else {
            wrong++;
            System.out.println(sentence + call + " answered " + got + ", due is " + want);
        }
    }

    /** The call throws just this exception, none that is derived from it, and changes nothing. */
    static void refused(String call, NearRanks x, Class<?> kind, Runnable run) {
        String before = stateOf(x) + " " + x.digest();
        due(call + " throws", thrownBy(run), kind.getSimpleName());
        due("the state after " + call, stateOf(x) + " " + x.digest(), before);
    }

    /** The call saves the state from before it, and undo() brings that back. */
    static void undoable(String call, NearRanks x, Runnable run) {
        String before = stateOf(x);
        run.run();
        due(call + " is undoable", thrownBy(x::undo), "nothing");
        due("the state after " + call + " and undo()", stateOf(x), before);
    }

    /** The call changes nothing at all: no state is saved, none is lost. */
    static void changesNothing(String call, NearRanks x, Runnable run) {
        String before = stateOf(x) + " " + x.digest();
        run.run();
        due("the state after " + call, stateOf(x) + " " + x.digest(), before);
    }

    /** The call is refused, and neither the row nor any of its saved states tells of it. */
    static void refusedWholly(String call, Class<?> kind, Supplier<NearRanks> make,
            Consumer<NearRanks> run) {
        NearRanks x = make.get();
        due(call + " throws", thrownBy(() -> run.accept(x)), kind.getSimpleName());
        due("all states after " + call, historyOf(x), historyOf(make.get()));
    }

    /** The call saves the state from before it, and the oldest of four makes room for it. */
    static void savesOneState(String call, Supplier<NearRanks> make, Consumer<NearRanks> run) {
        NearRanks x = make.get();
        String before = historyOf(make.get());
        run.accept(x);
        due("the stack after " + call, x.undo(), MOST_SAVED - 1);
        String kept = before.substring(0, before.lastIndexOf('\n'));
        due("the states before " + call, historyOf(x), kept);
    }

    /** The row and, one after the other, all its saved states, which are taken off by this. */
    static String historyOf(NearRanks x) {
        StringJoiner states = new StringJoiner("\n");
        states.add(stateOf(x));
        for (int i = 0; i <= MOST_SAVED && thrownBy(x::undo).equals("nothing"); i++) {
            states.add(stateOf(x));
        }
        return states.toString();
    }

    static String thrownBy(Runnable run) {
        try {
            run.run();
        } catch (RuntimeException e) {
            return e.getClass().getSimpleName();
        }
        return "nothing";
    }

    static NearRanks rowOf(long... values) {
        NearRanks x = new NearRanks();
        for (long value : values) {
            x.append(value);
        }
        return x;
    }

    /** A row of the values from 0 up to one below the count. */
    static NearRanks countedTo(int count) {
        NearRanks x = new NearRanks();
        for (int value = 0; value < count; value++) {
            x.append(value);
        }
        return x;
    }

    /** A full row whose undo stack has room left, so that a state saved wrongly is seen. */
    static NearRanks fullRow() {
        NearRanks x = countedTo(32);
        x.removeAt(0);
        x.undo();
        return x;
    }

    /** A full row of equal values. */
    static NearRanks fullOf(long value) {
        NearRanks x = new NearRanks();
        for (int i = 0; i < 32; i++) {
            x.append(value);
        }
        return x;
    }

    static void typeText(NearRanks x, String text) {
        for (int i = 0; i < text.length(); i++) {
            x.type(text.charAt(i));
        }
    }

    static void retype(NearRanks x, String text) {
        x.clearCommands();
        typeText(x, text);
    }

    /** A run of the text is at fault there, does nothing and saves nothing. */
    static void fault(String text, int fault) {
        NearRanks x = rowOf(1);
        x.undo();
        typeText(x, text);
        String before = stateOf(x);
        due("the run of '" + text + "'", x.runCommands(), -10 - fault);
        due("the state after '" + text + "'", stateOf(x), before);
        due("undo() after '" + text + "'", thrownBy(x::undo), "IllegalStateException");
    }

    /** A run of the text on an empty row carries out so many commands and saves one state. */
    static void ran(String text, int count, String values) {
        NearRanks x = rowOf(1);
        x.undo();
        typeText(x, text);
        String before = stateOf(x);
        due("the run of '" + text + "'", x.runCommands(), count);
        due("the values after '" + text + "'", valuesOf(x), values);
        due("undo() after '" + text + "'", x.undo(), 0);
        due("the state after '" + text + "' and undo()", stateOf(x), before);
    }

    static String valuesOf(NearRanks x) {
        StringJoiner joined = new StringJoiner(" ");
        for (int place = 0; place < x.whole(0); place++) {
            joined.add(Long.toString(x.at(place)));
        }
        return joined.toString();
    }

    static String elementsOf(NearRanks x, int what) {
        StringJoiner joined = new StringJoiner(" ");
        for (int place = 0; place < x.whole(0); place++) {
            joined.add(Integer.toString(x.element(place, what)));
        }
        return joined.toString();
    }

    static String wholesOf(NearRanks x) {
        StringJoiner joined = new StringJoiner(" ");
        for (int what = 0; what <= 11; what++) {
            joined.add(Integer.toString(x.whole(what)));
        }
        return joined.toString();
    }

    static String stateOf(NearRanks x) {
        return valuesOf(x) + " / " + elementsOf(x, 0) + " / " + wholesOf(x);
    }

    /** Ends the test program, with exit code 1 if an answer was wrong. */
    static void end() {
        System.out.println(right + " answers as due, " + wrong + " not");
        if (wrong != 0) {
            System.exit(1);
        }
    }
}
