/** Promises 1 and 13 to 17: a new object and the values. */
public final class ValuesTest {
    private static final Class<?> ARGUMENT = IllegalArgumentException.class;
    private static final Class<?> STATE = IllegalStateException.class;
    private static final Class<?> INDEX = IndexOutOfBoundsException.class;

    private ValuesTest() {
    }

    public static void main(String[] args) {
        promise1NewObject();
        promise13At();
        promise14Element();
        promise15Ranked();
        promise16Broken();
        promise17Whole();
        Kit.end();
    }

    private static void promise1NewObject() {
        NearRanks x = new NearRanks();
        Kit.due("NONE", NearRanks.NONE, -1000);
        Kit.due("the whole", Kit.wholesOf(x), "0 2 0 0 0 0 0 0 0 0 0 0");
        Kit.due("broken()", x.broken(), 0);
        Kit.refused("undo()", x, STATE, x::undo);
        Kit.due("clearCommands()", x.clearCommands(), 0);
        NearRanks other = new NearRanks();
        x.append(1);
        Kit.due("objects share nothing", other.whole(0), 0);
    }

    private static void promise13At() {
        NearRanks x = Kit.rowOf(Long.MIN_VALUE, 3, Long.MAX_VALUE);
        Kit.due("at(0)", x.at(0), Long.MIN_VALUE);
        Kit.due("at(1)", x.at(1), 3);
        Kit.due("at(2)", x.at(2), Long.MAX_VALUE);
        Kit.changesNothing("at", x, () -> x.at(1));
        Kit.refused("at(3)", x, INDEX, () -> x.at(3));
        Kit.refused("at(-1)", x, INDEX, () -> x.at(-1));
        Kit.refused("at(32)", x, INDEX, () -> x.at(32));
        x.removeAt(2);
        Kit.refused("at(2) after removeAt", x, INDEX, () -> x.at(2));
        NearRanks empty = new NearRanks();
        Kit.refused("at(0), empty", empty, INDEX, () -> empty.at(0));
        NearRanks full = Kit.countedTo(32);
        Kit.due("at(31)", full.at(31), 31);
        Kit.refused("at(32), full", full, INDEX, () -> full.at(32));
    }

    private static void promise14Element() {
        NearRanks x = Kit.rowOf(5, 1, 9, 3, 3, 7);
        x.insert(6, 0);
        Kit.due("numbers", Kit.elementsOf(x, 0), "0 1 2 3 4 5 6");
        Kit.due("ranks", Kit.elementsOf(x, 1), "4 1 6 2 3 5 0");
        Kit.due("distances", Kit.elementsOf(x, 2), "-4 0 -4 1 1 0 6");
        Kit.due("broken", Kit.elementsOf(x, 3), "1 0 1 0 0 0 1");
        Kit.due("falls", Kit.elementsOf(x, 4), "1 0 1 0 0 1 0");
        Kit.due("inversions", Kit.elementsOf(x, 5), "4 2 4 3 3 2 6");
        x.setOrder(true);
        Kit.due("ranks, falling", Kit.elementsOf(x, 1), "2 5 0 3 4 1 6");
        Kit.due("falls, falling", Kit.elementsOf(x, 4), "0 1 0 0 1 0 0");
        Kit.due("inversions, falling", Kit.elementsOf(x, 5), "2 4 2 2 2 4 0");
        Kit.changesNothing("element", x, () -> x.element(0, 5));
        Kit.refused("element(0, -1)", x, ARGUMENT, () -> x.element(0, -1));
        Kit.refused("element(0, 6)", x, ARGUMENT, () -> x.element(0, 6));
        Kit.refused("element(7, 0)", x, INDEX, () -> x.element(7, 0));
        Kit.refused("element(-1, 0)", x, INDEX, () -> x.element(-1, 0));
        Kit.refused("element(7, 6)", x, INDEX, () -> x.element(7, 6));
        Kit.refused("element(-1, -1)", x, INDEX, () -> x.element(-1, -1));
        // A distance as great as the bound does not break it, on either side.
        NearRanks edge = Kit.rowOf(2, 0, 1, 4, 5, 3);
        Kit.due("distances", Kit.elementsOf(edge, 2), "-2 1 1 -1 -1 2");
        Kit.due("broken at the bound", Kit.elementsOf(edge, 3), "0 0 0 0 0 0");
        edge.setBound(1);
        Kit.due("broken past the bound", Kit.elementsOf(edge, 3), "1 0 0 0 0 1");
    }

    private static void promise15Ranked() {
        NearRanks x = Kit.rowOf(5, 1, 3, 3);
        Kit.due("ranked(0)", x.ranked(0), 1);
        Kit.due("ranked(1)", x.ranked(1), 3);
        Kit.due("ranked(2)", x.ranked(2), 3);
        Kit.due("ranked(3)", x.ranked(3), 5);
        x.setOrder(true);
        Kit.due("ranked(0), falling", x.ranked(0), 5);
        Kit.due("ranked(3), falling", x.ranked(3), 1);
        Kit.changesNothing("ranked", x, () -> x.ranked(0));
        Kit.refused("ranked(4)", x, INDEX, () -> x.ranked(4));
        Kit.refused("ranked(-1)", x, INDEX, () -> x.ranked(-1));
        Kit.refused("ranked(-1000)", x, INDEX, () -> x.ranked(NearRanks.NONE));
        NearRanks empty = new NearRanks();
        Kit.refused("ranked(0), empty", empty, INDEX, () -> empty.ranked(0));
        NearRanks full = Kit.countedTo(32);
        Kit.due("ranked(31)", full.ranked(31), 31);
        Kit.refused("ranked(32), full", full, INDEX, () -> full.ranked(32));
    }

    private static void promise16Broken() {
        NearRanks x = Kit.rowOf(5, 1, 9, 3, 3, 7, 0);
        Kit.due("broken()", x.broken(), 0b1000101);
        Kit.changesNothing("broken", x, x::broken);
        x.setBound(6);
        Kit.due("broken() with the bound 6", x.broken(), 0);
        NearRanks full = Kit.countedTo(32);
        full.setOrder(true);
        full.setBound(30);
        Kit.due("broken() at both ends", full.broken(), 1L << 31 | 1L);
        full.setBound(0);
        Kit.due("broken() everywhere", full.broken(), 0xFFFFFFFFL);
        full.setBound(31);
        Kit.due("broken() nowhere", full.broken(), 0);
    }

    private static void promise17Whole() {
        NearRanks x = Kit.rowOf(5, 1, 9, 3, 3, 7, 0);
        Kit.due("the whole", Kit.wholesOf(x), "7 2 0 0 3 12 3 0 0 7 6 0");
        x.step();
        x.search(5);
        x.removeAt(6);
        Kit.typeText(x, "ab");
        Kit.due("the whole", Kit.wholesOf(x), "6 2 0 0 3 10 3 1 1 7 5 2");
        x.setOrder(true);
        x.setSelf(true);
        Kit.due("the order", x.whole(2), 1);
        Kit.due("the switch", x.whole(3), 1);
        Kit.changesNothing("whole", x, () -> x.whole(10));
        Kit.refused("whole(-1)", x, ARGUMENT, () -> x.whole(-1));
        Kit.refused("whole(12)", x, ARGUMENT, () -> x.whole(12));
        NearRanks low = Kit.rowOf(3, 0, 1, 2);
        Kit.due("a greatest distance below 0", low.whole(10), 3);
    }
}
