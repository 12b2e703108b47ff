/**
 * The texts of commands and promises 24 to 28: for each of their sentences that names a boundary
 * or a refused call, that boundary and what lies right beside it.
 */
public final class EdgesOfCommandsTest {
    private static final Class<?> ARGUMENT = IllegalArgumentException.class;
    private static final Class<?> STATE = IllegalStateException.class;
    private static final int LEAST = Integer.MIN_VALUE;
    private static final int GREATEST = Integer.MAX_VALUE;

    private EdgesOfCommandsTest() {
    }

    public static void main(String[] args) {
        atMost150Bytes();
        emptyOrSpacesAlone();
        wordsOfLetters();
        numbersOfWords();
        spaceInFrontOfNumbers();
        minusForValuesAlone();
        oneToNineDigits();
        otherSpaces();
        semicolonAtTheEnd();
        textThatEndsTooSoon();
        wrongWordThatEndsTheText();
        wrongWordAndWhatFollows();
        otherBytes();
        outOfRangeIsNoFault();
        faultDoesNothing();
        stopsAtTheFirstThatWouldThrow();
        eachCommandThatWouldThrow();
        savesOneState();
        commandsMendByThemselves();
        promise24Range();
        promise24Full();
        promise25Lengths();
        promise25IsNotUndoable();
        promise26NumberOfCommands();
        promise26MinusTheFault();
        promise26TextStays();
        promise27EmptyStack();
        promise27StatesLeft();
        promise28Checksums();
        promise28WrapsAround();
        promise28CountsTheStates();
        Kit.end();
    }

    // ---- the text

    private static void atMost150Bytes() {
        Kit.about("The command text has at most 150 bytes");
        NearRanks x = new NearRanks();
        Kit.typeText(x, "add 0;".repeat(24) + "add 24");
        Kit.due("the length", x.whole(11), 150);
        Kit.refused("the byte that it lacks", x, STATE, () -> x.type(';'));
        Kit.due("the run of the text without it", x.runCommands(), -160);
        Kit.retype(x, "add 0;".repeat(25));
        Kit.due("the run of 150 bytes", x.runCommands(), 25);
        Kit.due("the elements", x.whole(0), 25);
        Kit.due("the longest run", runOf("mend;".repeat(30)), 30);
    }

    private static int runOf(String text) {
        NearRanks x = new NearRanks();
        Kit.typeText(x, text);
        return x.runCommands();
    }

    private static void emptyOrSpacesAlone() {
        Kit.about("A text that is empty, or has spaces alone, has no fault");
        Kit.ran("", 0, "");
        Kit.ran(" ", 0, "");
        Kit.ran("  ", 0, "");
        Kit.ran(" ".repeat(149), 0, "");
        Kit.ran(" ".repeat(150), 0, "");
        Kit.fault("\t", 0);
        Kit.fault(" \n", 1);
    }

    private static void wordsOfLetters() {
        Kit.about("The words are add, put, del, set, swap, bound, mend");
        Kit.ran("add 1;put 0 2;set 0 3;swap 0;bound 9;mend;del 0;", 7, "3");
        Kit.fault("ADD 1;", 0);
        Kit.fault("aDD 1;", 0);
        Kit.fault("adds 1;", 0);
        Kit.fault("ad 1;", 0);
        Kit.fault("a 1;", 0);
        Kit.fault("addadd 1;", 0);
        Kit.fault("bdd 1;", 0);
        Kit.fault("aad 1;", 0);
        Kit.fault("ade 1;", 0);
        Kit.fault("addz 1;", 0);
        Kit.fault("zadd 1;", 0);
        Kit.fault("append 1;", 0);
        Kit.fault("insert 0 1;", 0);
        Kit.fault("step;", 0);
        Kit.fault("search 1;", 0);
        Kit.fault("undo;", 0);
        Kit.fault("men;", 0);
        Kit.fault("swa 0;", 0);
        Kit.fault("swaps 0;", 0);
        Kit.fault("boun 0;", 0);
        Kit.fault("bounds 0;", 0);
    }

    private static void numbersOfWords() {
        Kit.about("Each word is followed by its numbers: v a value, n another number");
        Kit.fault("add;", 3);
        Kit.fault("add 1 2;", 6);
        Kit.fault("put;", 3);
        Kit.fault("put 1;", 5);
        Kit.fault("put 1 2 3;", 8);
        Kit.fault("del;", 3);
        Kit.fault("del 1 2;", 6);
        Kit.fault("set;", 3);
        Kit.fault("set 1;", 5);
        Kit.fault("set 1 2 3;", 8);
        Kit.fault("swap;", 4);
        Kit.fault("swap 1 2;", 7);
        Kit.fault("bound;", 5);
        Kit.fault("bound 1 2;", 8);
        Kit.fault("mend 1;", 5);
    }

    private static void spaceInFrontOfNumbers() {
        Kit.about("Each number has at least one space (byte 32) in front");
        Kit.ran("add 7;", 1, "7");
        Kit.ran("add      7;", 1, "7");
        Kit.ran("put      0      7;", 1, "7");
        Kit.fault("add7;", 3);
        Kit.fault("add-7;", 3);
        Kit.fault("put0 7;", 3);
        Kit.fault("put 0-7;", 5);
        Kit.fault("bound0;", 5);
        Kit.fault("add\t7;", 3);
        Kit.fault("add \t7;", 4);
        Kit.fault("add\u001f7;", 3);
        Kit.fault("add!7;", 3);
    }

    private static void minusForValuesAlone() {
        Kit.about("A number is perhaps \"-\" (for values alone)");
        Kit.ran("add -7;", 1, "-7");
        Kit.ran("add -0;", 1, "0");
        Kit.ran("put 0 -7;", 1, "-7");
        Kit.ran("add 1;set 0 -7;", 2, "-7");
        Kit.fault("put -0 7;", 4);
        Kit.fault("set -0 7;", 4);
        Kit.fault("del -0;", 4);
        Kit.fault("swap -0;", 5);
        Kit.fault("bound -0;", 6);
        Kit.fault("add --7;", 5);
        Kit.fault("add - 7;", 5);
        Kit.fault("add 7-;", 5);
        Kit.fault("add +7;", 4);
        Kit.fault("mend -;", 5);
    }

    private static void oneToNineDigits() {
        Kit.about("One to nine digits (zeros in front are allowed; a tenth digit cannot stand)");
        Kit.ran("add 9;", 1, "9");
        Kit.ran("add 999999999;", 1, "999999999");
        Kit.ran("add -999999999;", 1, "-999999999");
        Kit.ran("add 000000000;", 1, "0");
        Kit.ran("add 000000012;", 1, "12");
        Kit.ran("add -000000012;", 1, "-12");
        Kit.ran("put 000000000 000000001;", 1, "1");
        Kit.fault("add ;", 4);
        Kit.fault("add -;", 5);
        Kit.fault("put ;", 4);
        Kit.fault("put 0 -;", 7);
        Kit.fault("add 1000000000;", 13);
        Kit.fault("add 0000000000;", 13);
        Kit.fault("add -0000000000;", 14);
        Kit.fault("put 0000000000 1;", 13);
        Kit.fault("put 0 0000000000;", 15);
        Kit.fault("put 000000000 -0000000000;", 24);
        Kit.fault("bound 0000000002;", 15);
        Kit.fault("add 99999999999999999999;", 13);
    }

    private static void otherSpaces() {
        Kit.about("Spaces in front of a command, in front of a semicolon, and at the end");
        Kit.ran(" mend;", 1, "");
        Kit.ran("mend ;", 1, "");
        Kit.ran("mend; ", 1, "");
        Kit.ran("   add   1   ;   add   2   ;   ", 2, "1 2");
        Kit.fault("me nd;", 0);
        Kit.fault("add - 1;", 5);
        Kit.fault("add 1 1;", 6);
        Kit.fault("mend; ;", 6);
    }

    private static void semicolonAtTheEnd() {
        Kit.about("Each command ends with a semicolon");
        Kit.fault("mend", 4);
        Kit.fault("mend mend;", 5);
        Kit.fault("add 1 mend;", 6);
        Kit.fault("add 1,", 5);
        Kit.fault("mend:", 4);
        Kit.fault(";", 0);
        Kit.fault("mend;;", 5);
        Kit.fault(" ;", 1);
    }

    /** What each beginning of a text that has no fault itself is at fault with. */
    private static void textThatEndsTooSoon() {
        Kit.about("Or the length of the text if it ends too soon");
        String text = " put  0 -12 ;add 3;";
        int word = 1;
        int other = 13;
        for (int length = 2; length < text.length(); length++) {
            String part = text.substring(0, length);
            if (length < 4) {
                Kit.fault(part, word);
            } else if (length < 13) {
                Kit.fault(part, length);
            } else if (length == 13) {
                Kit.ran(part, 1, "-12");
            } else {
                Kit.fault(part, length < 16 ? other : length);
            }
        }
        Kit.ran(text, 2, "-12 3");
        Kit.fault(" ".repeat(146) + "mend", 150);
        Kit.fault(" ".repeat(147) + "add", 150);
        Kit.fault("mend;".repeat(29) + "add 1", 150);
    }

    private static void wrongWordThatEndsTheText() {
        Kit.about("A wrong word is at fault with its first byte, when the end of the text follows");
        Kit.fault("a", 0);
        Kit.fault("  a", 2);
        Kit.fault("ad", 0);
        Kit.fault("adda", 0);
        Kit.fault("addz", 0);
        Kit.fault("mend;men", 5);
        Kit.fault("mend; mende", 6);
        Kit.fault("x".repeat(150), 0);
        Kit.fault(" ".repeat(149) + "x", 149);
        Kit.fault("mend;".repeat(29) + "mende", 145);
    }

    private static void wrongWordAndWhatFollows() {
        Kit.about("Found when the word is complete: when a byte that is none of a to z follows it");
        Kit.fault("ad;", 0);
        Kit.fault("ad 1;", 0);
        Kit.fault("ad1;", 0);
        Kit.fault("ad-", 0);
        Kit.fault("adD 1;", 0);
        Kit.fault("ad`", 0);
        Kit.fault("ad{", 0);
        Kit.fault("ad\u0000", 0);
        Kit.fault("ad\u007f", 0);
        Kit.fault("addD 1;", 3);
        Kit.fault("add` 1;", 3);
        Kit.fault("add{ 1;", 3);
        Kit.fault("mend;foo;", 5);
        Kit.fault("mend;  foo 1 2;bar", 7);
        Kit.fault("foo;bar;", 0);
    }

    private static void otherBytes() {
        Kit.about("The fault is the index of the first byte that cannot stand at its place");
        Kit.fault("\u0000", 0);
        Kit.fault("\u007f", 0);
        Kit.fault("0", 0);
        Kit.fault("-", 0);
        Kit.fault("`", 0);
        Kit.fault("{", 0);
        Kit.fault("Z", 0);
        Kit.fault("mend;5", 5);
        Kit.fault("mend; -", 6);
        Kit.fault("add /;", 4);
        Kit.fault("add :;", 4);
        Kit.fault("add 1/;", 5);
        Kit.fault("add 1:;", 5);
        Kit.fault("add x;", 4);
        Kit.fault("add 1x;", 5);
        Kit.fault("add 1 x;", 6);
        Kit.fault("add -x;", 5);
        Kit.fault("add x 1234567890;", 4);
    }

    private static void outOfRangeIsNoFault() {
        Kit.about("That a number is out of its range is no fault");
        Kit.ran("bound 32;", 0, "");
        Kit.ran("bound 999999999;", 0, "");
        Kit.ran("put 1 5;", 0, "");
        Kit.ran("put 999999999 5;", 0, "");
        Kit.ran("del 0;", 0, "");
        Kit.ran("set 0 5;", 0, "");
        Kit.ran("swap 0;", 0, "");
        Kit.fault("bound 32;x", 9);
    }

    // ---- the run

    private static void faultDoesNothing() {
        Kit.about("If it has a fault, nothing is done");
        NearRanks x = Kit.countedTo(7);
        Kit.typeText(x, "add 5;bound 0;mend;del 0;add");
        String before = Kit.stateOf(x) + x.digest();
        Kit.due("the run", x.runCommands(), -38);
        Kit.due("the run again", x.runCommands(), -38);
        Kit.due("the state", Kit.stateOf(x) + x.digest(), before);
        x.clearCommands();
        Kit.due("all states", Kit.historyOf(x), Kit.historyOf(Kit.countedTo(7)));
    }

    private static void stopsAtTheFirstThatWouldThrow() {
        Kit.about("Until one would throw, which is not thrown; those before stay done");
        Kit.ran("del 0;add 1;", 0, "");
        Kit.ran("add 1;del 1;add 2;", 1, "1");
        Kit.ran("add 1;add 2;del 2;del 0;", 2, "1 2");
        Kit.ran("add 1;del 0;del 0;add 2;", 2, "");
        Kit.ran("bound 31;bound 32;bound 0;", 1, "");
        NearRanks x = new NearRanks();
        Kit.typeText(x, "add 1;bound 31;bound 32;bound 0;add 2;");
        Kit.due("the run", x.runCommands(), 2);
        Kit.due("the bound", x.whole(1), 31);
        Kit.due("elements that came", x.whole(9), 1);
        Kit.retype(x, "del 0;put 1 5;");
        Kit.due("the run that empties the row", x.runCommands(), 1);
        Kit.due("elements that came", x.whole(9), 1);
    }

    private static void eachCommandThatWouldThrow() {
        Kit.about("The commands are those of the calls, at the ends of their ranges");
        Kit.ran("put 0 1;put 1 2;put 3 3;", 2, "1 2");
        Kit.ran("add 1;set 0 5;set 1 6;", 2, "5");
        Kit.ran("add 1;swap 0;", 1, "1");
        Kit.ran("add 1;add 2;swap 0;swap 1;", 3, "2 1");
        Kit.ran("bound 0;bound 31;bound 32;", 2, "");
        NearRanks full = Kit.fullRow();
        Kit.retype(full, "add 1;del 0;");
        Kit.due("add to a full row", full.runCommands(), 0);
        Kit.retype(full, "put 0 1;del 0;");
        Kit.due("put into a full row", full.runCommands(), 0);
        Kit.retype(full, "swap 30;swap 31;");
        Kit.due("swap at the end of a full row", full.runCommands(), 1);
        Kit.retype(full, "set 31 7;set 32 7;");
        Kit.due("set at the end of a full row", full.runCommands(), 1);
        Kit.retype(full, "del 31;del 31;");
        Kit.due("del at the end of a full row", full.runCommands(), 1);
        Kit.retype(full, "put 31 5;put 31 5;");
        Kit.due("put at the end of what was a full row", full.runCommands(), 1);
        Kit.due("the elements", full.whole(0), 32);
    }

    private static void savesOneState() {
        Kit.about("A run saves one state, the one from before it; its commands save none");
        NearRanks x = Kit.countedTo(2);
        Kit.typeText(x, "add 5;put 0 6;set 0 7;swap 0;bound 1;mend;del 0;");
        Kit.due("the run", x.runCommands(), 7);
        Kit.due("undo() of the run", x.undo(), 2);
        Kit.due("the values", Kit.valuesOf(x), "0 1");
        Kit.retype(x, "del 9;add 1;");
        Kit.due("a run that does nothing", x.runCommands(), 0);
        Kit.due("undo() of it", x.undo(), 2);
        Kit.due("the values", Kit.valuesOf(x), "0 1");
        NearRanks four = Kit.countedTo(6);
        Kit.typeText(four, "add 8;add 9;");
        Kit.due("a run on a full stack", four.runCommands(), 2);
        Kit.due("undo() of it", four.undo(), 3);
        Kit.due("the elements", four.whole(0), 6);
        for (int left = 2; left >= 0; left--) {
            Kit.due("undo() of what was before", four.undo(), left);
        }
        Kit.due("the elements", four.whole(0), 3);
        Kit.refused("undo() of the dropped one", four, STATE, four::undo);
    }

    private static void commandsMendByThemselves() {
        Kit.about("The row is mended at the end of each change, also of those of a run");
        NearRanks x = Kit.rowOf(1, 2, 3);
        x.setBound(0);
        x.setSelf(true);
        // Were it mended at its end alone, del 3 would remove the 0 that came just before.
        Kit.typeText(x, "add 0;del 3;put 0 9;set 0 9;");
        Kit.due("the run", x.runCommands(), 4);
        Kit.due("the values", Kit.valuesOf(x), "1 2 9 9");
        Kit.due("the numbers", Kit.elementsOf(x, 0), "0 1 3 4");
        Kit.due("the steps", x.whole(7), 8);
        Kit.retype(x, "swap 0;bound 0;mend;");
        Kit.due("the run", x.runCommands(), 3);
        Kit.due("the steps", x.whole(7), 9);
    }

    // ---- promises 24 to 28

    private static void promise24Range() {
        Kit.about("24: value: 0 to 127; throws IllegalArgumentException if it is out of range");
        NearRanks x = new NearRanks();
        Kit.due("type(0)", x.type(0), 1);
        Kit.due("type(127)", x.type(127), 2);
        Kit.refused("type(-1)", x, ARGUMENT, () -> x.type(-1));
        Kit.refused("type(128)", x, ARGUMENT, () -> x.type(128));
        Kit.refused("type(256 + 32)", x, ARGUMENT, () -> x.type(288));
        Kit.refused("type(least)", x, ARGUMENT, () -> x.type(LEAST));
        Kit.refused("type(greatest)", x, ARGUMENT, () -> x.type(GREATEST));
        Kit.due("whole(11)", x.whole(11), 2);
    }

    private static void promise24Full() {
        Kit.about("24: throws IllegalStateException if the text has 150 bytes");
        NearRanks x = new NearRanks();
        Kit.typeText(x, " ".repeat(149));
        Kit.due("type as the 150th", x.type(' '), 150);
        Kit.refused("type as the 151st", x, STATE, () -> x.type(' '));
        Kit.refused("type(127) as the 151st", x, STATE, () -> x.type(127));
        Kit.refused("type(128) as the 151st", x, ARGUMENT, () -> x.type(128));
        Kit.due("clearCommands()", x.clearCommands(), 150);
        Kit.due("type after it", x.type(' '), 1);
    }

    private static void promise25Lengths() {
        Kit.about("25: empties the command text; returns the length that it had");
        NearRanks x = new NearRanks();
        Kit.due("of an empty text", x.clearCommands(), 0);
        x.type('a');
        Kit.due("of one byte", x.clearCommands(), 1);
        Kit.due("of an emptied text", x.clearCommands(), 0);
        Kit.typeText(x, "mend;".repeat(30));
        Kit.due("of a full text", x.clearCommands(), 150);
        Kit.due("the run of what is left", x.runCommands(), 0);
        Kit.typeText(x, "mend;");
        Kit.due("the run of a shorter text", x.runCommands(), 1);
    }

    private static void promise25IsNotUndoable() {
        Kit.about("24 and 25: not undoable");
        NearRanks x = new NearRanks();
        x.type('a');
        x.clearCommands();
        Kit.refused("undo()", x, STATE, x::undo);
        x.append(1);
        x.type('a');
        x.clearCommands();
        Kit.due("undo()", x.undo(), 0);
        Kit.due("the elements", x.whole(0), 0);
    }

    private static void promise26NumberOfCommands() {
        Kit.about("26: returns the number of commands that were carried out");
        Kit.due("of an empty text", runOf(""), 0);
        Kit.due("of one that changes nothing", runOf("mend;"), 1);
        Kit.due("of one that would throw", runOf("del 0;"), 0);
        Kit.due("of the most that there can be", runOf("mend;".repeat(30)), 30);
    }

    private static void promise26MinusTheFault() {
        Kit.about("26: -10 minus the fault if it has one");
        Kit.due("the least fault", runOf("x"), -10);
        Kit.due("the next one", runOf(" x"), -11);
        Kit.due("at the last byte", runOf(" ".repeat(149) + "x"), -159);
        Kit.due("behind the last byte", runOf(" ".repeat(146) + "mend"), -160);
    }

    private static void promise26TextStays() {
        Kit.about("26: runs the command text, which stays as it is");
        NearRanks x = new NearRanks();
        Kit.typeText(x, "add 3;");
        Kit.due("the run", x.runCommands(), 1);
        Kit.due("the run again", x.runCommands(), 1);
        Kit.due("the length", x.whole(11), 6);
        Kit.due("the values", Kit.valuesOf(x), "3 3");
        Kit.typeText(x, "ad");
        Kit.due("a run with a fault", x.runCommands(), -16);
        Kit.typeText(x, "d 4;");
        Kit.due("the run of what was typed on", x.runCommands(), 2);
        Kit.due("the values", Kit.valuesOf(x), "3 3 3 4");
    }

    private static void promise27EmptyStack() {
        Kit.about("27: throws IllegalStateException if the stack is empty");
        NearRanks x = new NearRanks();
        Kit.refused("undo() of a new object", x, STATE, x::undo);
        x.append(1);
        Kit.due("undo()", x.undo(), 0);
        Kit.refused("undo() once more", x, STATE, x::undo);
        Kit.typeText(x, "x");
        x.runCommands();
        Kit.refused("undo() after a run with a fault", x, STATE, x::undo);
        Kit.due("a refused call", Kit.thrownBy(() -> x.setBound(32)), "IllegalArgumentException");
        Kit.refused("undo() after a refused call", x, STATE, x::undo);
    }

    private static void promise27StatesLeft() {
        Kit.about("27: restores the latest saved state and removes it; returns the number left");
        NearRanks x = Kit.rowOf(5, 1, 9, 3, 3, 7, 0);
        x.setSelf(true);
        Kit.due("undo() of mending by itself", x.undo(), 3);
        Kit.due("the steps", x.whole(7), 0);
        Kit.due("the switch", x.whole(3), 0);
        Kit.due("the values", Kit.valuesOf(x), "5 1 9 3 3 7 0");
        Kit.due("undo()", x.undo(), 2);
        Kit.due("undo()", x.undo(), 1);
        Kit.due("undo()", x.undo(), 0);
        Kit.due("the values", Kit.valuesOf(x), "5 1 9 3");
        Kit.refused("undo() once more", x, STATE, x::undo);
    }

    private static void promise28Checksums() {
        Kit.about("28: h = 43814; for each of the values v, in this order, h becomes 31 * h + v");
        NearRanks x = new NearRanks();
        Kit.due("of a new object", x.digest(), -7741732808485424540L);
        NearRanks lost = Kit.rowOf(9, 0, 1);
        lost.setBound(0);
        Kit.typeText(lost, "mend");
        Kit.due("of one with a lost value", lost.digest(), 2064879653859000339L);
        Kit.changesNothing("digest()", lost, lost::digest);
    }

    private static void promise28WrapsAround() {
        Kit.about("28: long arithmetic, overflow wraps");
        NearRanks x = Kit.rowOf(Long.MAX_VALUE, Long.MIN_VALUE);
        Kit.due("of the ends", x.digest(), -5503218406517455901L);
    }

    private static void promise28CountsTheStates() {
        Kit.about("28: the number of states on the undo stack");
        NearRanks x = new NearRanks();
        for (int states = 0; states <= 6; states++) {
            Kit.due("of " + states + " states", x.digest(), emptyRowDigest(Math.min(states, 4)));
            x.setBound(2);
        }
    }

    private static long emptyRowDigest(int states) {
        long[] values = {states, 0, 2, 0, 0, 0, 0, 0, 0, 0, 0, 0, 0, 0, 0, 0};
        long hash = 43814;
        for (long value : values) {
            hash = 31 * hash + value;
        }
        return hash;
    }
}
