import java.util.Objects;
import java.util.StringJoiner;

/** What the tests share: telling wrong answers, and making and telling of rows. */
final class Kit {
    private static int right = 0;
    private static int wrong = 0;

    private Kit() {
    }

    static void due(String call, long got, long want) {
        due(call, Long.toString(got), Long.toString(want));
    }

    static void due(String call, String got, String want) {
        if (Objects.equals(got, want)) {
            right++;
        } else {
            wrong++;
            System.out.println(call + " answered " + got + ", due is " + want);
        }
    }

    /** The call throws just this exception, none that is derived from it, and changes nothing. */
    static void refused(String call, NearRanks x, Class<?> kind, Runnable run) {
        String before = stateOf(x) + " " + x.digest();
        due(call + " throws", thrownBy(run), kind.getSimpleName());
        due("the state after " + call, stateOf(x) + " " + x.digest(), before);
    }

    /** The call saves the state from before it, and undo() brings that back. */
    static void undoable(String call, NearRanks x, Runnable run) {
        String before = stateOf(x);
        run.run();
        due(call + " is undoable", thrownBy(x::undo), "nothing");
        due("the state after " + call + " and undo()", stateOf(x), before);
    }

    /** The call changes nothing at all: no state is saved, none is lost. */
    static void changesNothing(String call, NearRanks x, Runnable run) {
        String before = stateOf(x) + " " + x.digest();
        run.run();
        due("the state after " + call, stateOf(x) + " " + x.digest(), before);
    }

    static String thrownBy(Runnable run) {
        try {
            run.run();
        } catch (RuntimeException e) {
            return e.getClass().getSimpleName();
        }
        return "nothing";
    }

    static NearRanks rowOf(long... values) {
        NearRanks x = new NearRanks();
        for (long value : values) {
            x.append(value);
        }
        return x;
    }

    /** A row of the values from 0 up to one below the count. */
    static NearRanks countedTo(int count) {
        NearRanks x = new NearRanks();
        for (int value = 0; value < count; value++) {
            x.append(value);
        }
        return x;
    }

    static void typeText(NearRanks x, String text) {
        for (int i = 0; i < text.length(); i++) {
            x.type(text.charAt(i));
        }
    }

    static void retype(NearRanks x, String text) {
        x.clearCommands();
        typeText(x, text);
    }

    static String valuesOf(NearRanks x) {
        StringJoiner joined = new StringJoiner(" ");
        for (int place = 0; place < x.whole(0); place++) {
            joined.add(Long.toString(x.at(place)));
        }
        return joined.toString();
    }

    static String elementsOf(NearRanks x, int what) {
        StringJoiner joined = new StringJoiner(" ");
        for (int place = 0; place < x.whole(0); place++) {
            joined.add(Integer.toString(x.element(place, what)));
        }
        return joined.toString();
    }

    static String wholesOf(NearRanks x) {
        StringJoiner joined = new StringJoiner(" ");
        for (int what = 0; what <= 11; what++) {
            joined.add(Integer.toString(x.whole(what)));
        }
        return joined.toString();
    }

    static String stateOf(NearRanks x) {
        return valuesOf(x) + " / " + elementsOf(x, 0) + " / " + wholesOf(x);
    }

    /** Ends the test program, with exit code 1 if an answer was wrong. */
    static void end() {
        System.out.println(right + " answers as due, " + wrong + " not");
        if (wrong != 0) {
            System.exit(1);
        }
    }
}
