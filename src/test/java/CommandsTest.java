/** Promises 24 to 28: command text, undo and checksum. */
public final class CommandsTest {
    private static final Class<?> ARGUMENT = IllegalArgumentException.class;
    private static final Class<?> STATE = IllegalStateException.class;

    private CommandsTest() {
    }

    public static void main(String[] args) {
        promise24Type();
        promise25ClearCommands();
        promise26RunCommands();
        promise26Faults();
        promise26NoFaults();
        promise26Stops();
        promise27Undo();
        promise27Depth();
        promise28Digest();
        Kit.end();
    }

    private static void promise24Type() {
        NearRanks x = new NearRanks();
        Kit.due("type(0)", x.type(0), 1);
        Kit.due("type(127)", x.type(127), 2);
        Kit.refused("type(-1)", x, ARGUMENT, () -> x.type(-1));
        Kit.refused("type(128)", x, ARGUMENT, () -> x.type(128));
        Kit.refused("undo() after type", x, STATE, x::undo);
        for (int length = 3; length <= 150; length++) {
            Kit.due("type(32)", x.type(32), length);
        }
        Kit.refused("type(32), full", x, STATE, () -> x.type(32));
        Kit.refused("type(128), full", x, ARGUMENT, () -> x.type(128));
    }

    private static void promise25ClearCommands() {
        NearRanks x = new NearRanks();
        Kit.typeText(x, "add 5;");
        Kit.due("clearCommands()", x.clearCommands(), 6);
        Kit.due("clearCommands() again", x.clearCommands(), 0);
        Kit.due("the length", x.whole(11), 0);
        Kit.refused("undo() after clearCommands", x, STATE, x::undo);
        Kit.typeText(x, "add 7;");
        Kit.due("runCommands()", x.runCommands(), 1);
        Kit.due("the values", Kit.valuesOf(x), "7");
    }

    private static void promise26RunCommands() {
        NearRanks x = new NearRanks();
        Kit.typeText(x, "add 5; add -3 ;put 1 4;swap 0;bound 0; set 2 7;del 0;mend;");
        String before = Kit.stateOf(x);
        Kit.due("runCommands()", x.runCommands(), 8);
        Kit.due("the values", Kit.valuesOf(x), "5 7");
        Kit.due("the numbers", Kit.elementsOf(x, 0), "0 1");
        Kit.due("the bound", x.whole(1), 0);
        Kit.due("the text stays", x.whole(11), 58);
        Kit.due("a run saves one state", x.undo(), 0);
        Kit.due("the state after undo()", Kit.stateOf(x), before);

        NearRanks turned = Kit.rowOf(3, 2, 1);
        Kit.typeText(turned, "bound 0;mend;");
        Kit.due("runCommands()", turned.runCommands(), 2);
        Kit.due("the values", Kit.valuesOf(turned), "1 2 3");
        Kit.due("the steps", turned.whole(7), 3);

        NearRanks self = Kit.rowOf(1, 2, 3);
        self.setBound(0);
        self.setSelf(true);
        Kit.typeText(self, "add 0;swap 1;");
        Kit.due("runCommands(), mended by itself", self.runCommands(), 2);
        Kit.due("the values", Kit.valuesOf(self), "0 1 2 3");
        Kit.due("the steps", self.whole(7), 4);
    }

    private static void promise26Faults() {
        Kit.fault(";", 0);
        Kit.fault("  ;", 2);
        Kit.fault("5", 0);
        Kit.fault("Add 5;", 0);
        Kit.fault("ad", 0);
        Kit.fault(" ad", 1);
        Kit.fault("ad 5;", 0);
        Kit.fault("addx 5;", 0);
        Kit.fault("addz 5;", 0);
        Kit.fault("zdd 5;", 0);
        Kit.fault("adda", 0);
        Kit.fault("add", 3);
        Kit.fault("add ", 4);
        Kit.fault("add;", 3);
        Kit.fault("add5;", 3);
        Kit.fault("add ;", 4);
        Kit.fault("add -", 5);
        Kit.fault("add -;", 5);
        Kit.fault("add - 5;", 5);
        Kit.fault("add --5;", 5);
        Kit.fault("add +5;", 4);
        Kit.fault("add 5", 5);
        Kit.fault("add 5 ", 6);
        Kit.fault("add 5 6;", 6);
        Kit.fault("add 5-;", 5);
        Kit.fault("add 5x;", 5);
        Kit.fault("add 1234567890;", 13);
        Kit.fault("add -1234567890;", 14);
        Kit.fault("add 0000000001;", 13);
        Kit.fault("put 1234567890 1;", 13);
        Kit.fault("put 0;", 5);
        Kit.fault("put 0 ;", 6);
        Kit.fault("put -0 1;", 4);
        Kit.fault("put 0-1;", 5);
        Kit.fault("put 0 1 2;", 8);
        Kit.fault("del -0;", 4);
        Kit.fault("set -1 1;", 4);
        Kit.fault("swap -0;", 5);
        Kit.fault("bound -1;", 6);
        Kit.fault("mend", 4);
        Kit.fault("mend 5;", 5);
        Kit.fault("mend5;", 4);
        Kit.fault("mends;", 0);
        Kit.fault("mend;;", 5);
        Kit.fault("add 7; mend; foo", 13);
        Kit.fault("add 7; mend; mend", 17);
        Kit.fault("add 7; mend; del", 16);
        Kit.fault("add\u00005;", 3);
        Kit.fault("add 5;\t", 6);
        Kit.fault("mend`;", 4);
        Kit.fault("mend{;", 4);
        Kit.fault("add /;", 4);
        Kit.fault("add :;", 4);
        Kit.fault(" ".repeat(149) + "x", 149);
        Kit.fault(" ".repeat(146) + "mend", 150);
        Kit.fault("a".repeat(150), 0);
    }

    private static void promise26NoFaults() {
        Kit.ran("", 0, "");
        Kit.ran("   ", 0, "");
        Kit.ran("mend;", 1, "");
        Kit.ran(" mend ; ", 1, "");
        Kit.ran("  add   5  ;  add 6;", 2, "5 6");
        Kit.ran("add -0;add 007;add -000000009;", 3, "0 7 -9");
        Kit.ran("add 999999999;add -999999999;", 2, "999999999 -999999999");
        Kit.ran("put 000000000 4;put   0   -5;", 2, "-5 4");
        Kit.ran("mend;".repeat(30), 30, "");
        Kit.ran(" ".repeat(150), 0, "");
    }

    private static void promise26Stops() {
        Kit.ran("add 1;del 1;add 2;", 1, "1");
        Kit.ran("del 0;add 2;", 0, "");
        Kit.ran("add 1;put 2 5;add 2;", 1, "1");
        Kit.ran("add 1;put 1 5;put 3 2;", 2, "1 5");
        Kit.ran("add 1;set 1 5;add 2;", 1, "1");
        Kit.ran("add 1;set 0 5;add 2;", 3, "5 2");
        Kit.ran("add 1;swap 0;add 2;", 1, "1");
        Kit.ran("add 1;add 2;swap 0;swap 1;", 3, "2 1");
        Kit.ran("bound 31;bound 32;add 2;", 1, "");
        Kit.ran("bound 999999999;", 0, "");
        Kit.ran("swap 999999999;", 0, "");
        NearRanks full = Kit.countedTo(30);
        Kit.typeText(full, "add 30;put 0 31;put 0 32;mend;");
        Kit.due("a run that fills the row", full.runCommands(), 2);
        Kit.due("the elements", full.whole(0), 32);
        Kit.retype(full, "add 1;mend;");
        Kit.due("a run in a full row", full.runCommands(), 0);
        Kit.retype(full, "del 31;add 7;");
        Kit.due("a run that makes room", full.runCommands(), 2);
    }

    private static void promise27Undo() {
        NearRanks x = Kit.rowOf(5, 1, 9, 3, 3, 7, 0);
        x.search(3);
        String before = Kit.stateOf(x);
        x.setBound(1);
        x.setOrder(true);
        x.setSelf(true);
        Kit.typeText(x, "add");
        Kit.due("undo()", x.undo(), 3);
        Kit.due("undo()", x.undo(), 2);
        Kit.due("undo()", x.undo(), 1);
        Kit.due("the text stays", x.whole(11), 3);
        x.clearCommands();
        Kit.due("the state", Kit.stateOf(x), before);
        Kit.due("undo()", x.undo(), 0);
        Kit.due("the looks", x.whole(8), 0);
        Kit.refused("undo() of an empty stack", x, STATE, x::undo);
        x.removeAt(6);
        x.undo();
        Kit.due("numbers are used again by undo()", x.append(8) + x.element(7, 0), 8);
    }

    private static void promise27Depth() {
        NearRanks x = Kit.countedTo(7);
        for (int left = 3; left >= 0; left--) {
            Kit.due("undo()", x.undo(), left);
            Kit.due("the elements", x.whole(0), 3 + left);
        }
        Kit.refused("undo() of a fifth", x, STATE, x::undo);
        x.append(3);
        x.append(4);
        Kit.due("undo() after the stack was empty", x.undo(), 1);
        Kit.due("the values", Kit.valuesOf(x), "0 1 2 3");
    }

    private static long hashOf(NearRanks x, int saved) {
        long hash = 31 * 43814L + saved;
        for (int what = 0; what <= 11; what++) {
            hash = 31 * hash + x.whole(what);
        }
        for (int place = 0; place < x.whole(0); place++) {
            hash = 31 * hash + x.at(place);
            for (int what = 0; what <= 5; what++) {
                hash = 31 * hash + x.element(place, what);
            }
        }
        hash = 31 * hash + x.broken();
        hash = 31 * hash + x.worstSearch();
        return 31 * hash + x.lostValues();
    }

    private static void promise28Digest() {
        NearRanks x = new NearRanks();
        Kit.due("digest() of a new object", x.digest(), hashOf(x, 0));
        Kit.changesNothing("digest", x, x::digest);
        x.append(Long.MIN_VALUE);
        Kit.due("digest() of one element", x.digest(), hashOf(x, 1));
        x.append(-5);
        x.append(Long.MAX_VALUE);
        x.append(3);
        x.search(4);
        Kit.typeText(x, "mend");
        Kit.due("digest() of four", x.digest(), hashOf(x, 4));
        NearRanks lost = Kit.rowOf(9, 0, 1, 2, 3, 4, 5, 6, 7, 8);
        lost.setBound(0);
        Kit.due("digest() with a lost value", lost.digest(), hashOf(lost, 4));
    }
}
