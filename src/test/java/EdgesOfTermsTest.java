import java.util.function.Consumer;

/**
 * The head of the document (the row, mending, searching, undo, exceptions): for each of its
 * sentences that names a boundary, that boundary and what lies right beside it.
 */
public final class EdgesOfTermsTest {
    private static final Class<?> ARGUMENT = IllegalArgumentException.class;
    private static final Class<?> STATE = IllegalStateException.class;
    private static final Class<?> INDEX = IndexOutOfBoundsException.class;
    private static final int NONE = NearRanks.NONE;

    private EdgesOfTermsTest() {
    }

    public static void main(String[] args) {
        atMost32Elements();
        placesFromZero();
        numbersAreNotUsedAgain();
        numbersAreUsedAgainByUndo();
        aheadInEitherOrder();
        rankOfEqualValues();
        boundIsNotYetBroken();
        greatestBound();
        falls();
        inversions();
        stepsAtTheEnds();
        stepsOfSeveral();
        mendUntilInBound();
        eachChangeMendsByItself();
        noChangeMendsWhenOff();
        windowThatIsHalved();
        widestWindowThatIsHalved();
        fromLowOnBelowHigh();
        looksAgain();
        searchOfAnEmptyRow();
        eachValueInBoundIsFound();
        savedAlsoIfNothingChanges();
        latestFourStates();
        stackThatGoesRound();
        eachUndoableCallDropsTheOldest();
        allButTheCommandText();
        refusedCallsChangeNothing();
        firstOfSeveralExceptions();
        noneOnlyWithoutAnException();
        Kit.end();
    }

    // ---- the row

    private static void atMost32Elements() {
        Kit.about("A row has at most 32 elements");
        NearRanks x = Kit.countedTo(31);
        Kit.due("append as the 32nd", x.append(31), 0);
        Kit.due("the elements", x.whole(0), 32);
        Kit.refused("append as the 33rd", x, STATE, () -> x.append(32));
        Kit.refused("insert as the 33rd", x, STATE, () -> x.insert(0, 32));
        x.removeAt(5);
        Kit.due("append where one went", x.append(32), 0);
        Kit.refused("append as the 33rd again", x, STATE, () -> x.append(33));
        x.undo();
        Kit.due("insert where undo() made room", x.insert(31, 40), 32);
        Kit.refused("insert as the 33rd again", x, STATE, () -> x.insert(32, 41));
    }

    private static void placesFromZero() {
        Kit.about("A row has elements at places from 0");
        NearRanks x = Kit.fullRow();
        Kit.due("at(0)", x.at(0), 0);
        Kit.due("at(31)", x.at(31), 31);
        Kit.refused("at(-1)", x, INDEX, () -> x.at(-1));
        Kit.refused("at(32)", x, INDEX, () -> x.at(32));
    }

    private static void numbersAreNotUsedAgain() {
        Kit.about("Elements get the next number, from 0 on, and numbers are not used again");
        NearRanks x = new NearRanks();
        Kit.due("the first number", x.insert(0, 7), 0);
        Kit.due("the number that goes", x.removeAt(0), 0);
        Kit.due("the number in an emptied row", x.insert(0, 7), 1);
        x.setValue(0, 8);
        Kit.due("the number of a value that was set", x.element(0, 0), 1);
        Kit.due("an insert that is refused", Kit.thrownBy(() -> x.insert(2, 1)),
            "IllegalArgumentException");
        x.bestPlace(3);
        x.rankOf(3);
        x.stepsFor(0);
        Kit.due("the number behind questions and a refused call", x.insert(0, 7), 2);
        for (int i = 3; i < 250; i++) {
            x.removeAt(0);
            Kit.due("the number of one that comes late", x.insert(1, i), i);
        }
        Kit.due("elements that came", x.whole(9), 250);
        NearRanks full = Kit.fullRow();
        Kit.due("append that is refused", Kit.thrownBy(() -> full.append(1)),
            "IllegalStateException");
        full.removeAt(31);
        full.append(31);
        Kit.due("the number behind an append that was refused", full.element(31, 0), 32);
    }

    private static void numbersAreUsedAgainByUndo() {
        Kit.about("Numbers are not used again (but by undo())");
        NearRanks x = Kit.rowOf(1, 2);
        x.undo();
        Kit.due("the number after undo()", x.insert(0, 0), 1);
        Kit.typeText(x, "add 5;add 6;");
        x.runCommands();
        Kit.due("elements that came", x.whole(9), 4);
        x.undo();
        Kit.due("the number after undo() of a run", x.insert(2, 9), 2);
        x.removeAt(0);
        x.undo();
        Kit.due("the number after undo() of removeAt", x.insert(3, 9), 3);
    }

    private static void aheadInEitherOrder() {
        Kit.about("A value is ahead if it is less in the rising order, greater in the falling one");
        NearRanks x = Kit.rowOf(Long.MAX_VALUE, Long.MIN_VALUE, -1, 0);
        Kit.due("the ranks, rising", Kit.elementsOf(x, 1), "3 0 1 2");
        Kit.due("the inversions, rising", x.whole(5), 3);
        x.setOrder(true);
        Kit.due("the ranks, falling", Kit.elementsOf(x, 1), "0 3 2 1");
        Kit.due("the inversions, falling", x.whole(5), 3);
        NearRanks beside = Kit.rowOf(Long.MIN_VALUE + 1, Long.MIN_VALUE, Long.MAX_VALUE,
            Long.MAX_VALUE - 1);
        Kit.due("the ranks of neighbouring values", Kit.elementsOf(beside, 1), "1 0 3 2");
        beside.setOrder(true);
        Kit.due("the ranks of neighbouring values, falling", Kit.elementsOf(beside, 1), "2 3 0 1");
    }

    private static void rankOfEqualValues() {
        Kit.about("The rank: the number ahead, plus that with the same value at lower places");
        NearRanks same = Kit.fullOf(7);
        same.setBound(0);
        for (int place = 0; place < 32; place++) {
            Kit.due("the rank of an equal one", same.element(place, 1), place);
        }
        Kit.due("broken ones", same.broken(), 0);
        same.setOrder(true);
        Kit.due("broken ones, falling", same.broken(), 0);
        NearRanks x = Kit.rowOf(4, 4, 1, 4, 1);
        Kit.due("the ranks", Kit.elementsOf(x, 1), "2 3 0 4 1");
        x.swap(0);
        Kit.due("the ranks after a swap of equal ones", Kit.elementsOf(x, 1), "2 3 0 4 1");
        Kit.due("the numbers after it", Kit.elementsOf(x, 0), "1 0 2 3 4");
        Kit.due("the rank of one element", Kit.rowOf(9).element(0, 1), 0);
    }

    private static void boundIsNotYetBroken() {
        Kit.about("Broken if its distance is greater than the bound, or less than 0 - the bound");
        NearRanks late = Kit.rowOf(1, 2, 3, 0);
        late.setBound(3);
        Kit.due("a distance that is the bound", late.broken(), 0);
        late.setBound(2);
        Kit.due("a distance of one more", late.broken(), 0b1000);
        NearRanks early = Kit.rowOf(3, 0, 1, 2);
        early.setBound(3);
        Kit.due("a distance that is 0 - the bound", early.broken(), 0);
        early.setBound(2);
        Kit.due("a distance of one less", early.broken(), 0b0001);
        early.setBound(1);
        Kit.due("distances of 1 with the bound 1", early.broken(), 0b0001);
        early.setBound(0);
        Kit.due("distances of 1 with the bound 0", early.broken(), 0b1111);
        NearRanks first = Kit.rowOf(2, 1, 0);
        Kit.due("distances of 2 with the first bound", first.broken(), 0);
        first.append(-1);
        Kit.due("distances of 3 with the first bound", first.broken(), 0b1001);
    }

    private static void greatestBound() {
        Kit.about("There is a bound (0 to 31; 2 at first)");
        NearRanks x = Kit.countedTo(32);
        Kit.due("the bound at first", x.whole(1), 2);
        x.setOrder(true);
        x.setBound(31);
        Kit.due("broken ones with 31", x.whole(4), 0);
        Kit.due("the greatest distance", x.whole(10), 31);
        x.setBound(30);
        Kit.due("broken ones with 30", x.broken(), 1L << 31 | 1L);
        x.setBound(0);
        Kit.due("broken ones with 0", x.whole(4), 32);
    }

    private static void falls() {
        Kit.about("Two neighbours are a fall if the value at p + 1 is ahead of that at p");
        Kit.due("the falls of an empty row", new NearRanks().whole(6), 0);
        Kit.due("the falls of one element", Kit.rowOf(1).whole(6), 0);
        Kit.due("the falls of equal ones", Kit.fullOf(3).whole(6), 0);
        Kit.due("the falls of two", Kit.rowOf(1, 0).whole(6), 1);
        NearRanks turned = Kit.countedTo(32);
        Kit.due("the falls of a full row", turned.whole(6), 0);
        turned.setOrder(true);
        Kit.due("the falls of a full row that is all wrong", turned.whole(6), 31);
    }

    private static void inversions() {
        Kit.about("An inversion: the value at the higher place is ahead of that of the other one");
        Kit.due("those of an empty row", new NearRanks().whole(5), 0);
        Kit.due("those of one element", Kit.rowOf(1).whole(5), 0);
        Kit.due("those of equal ones", Kit.fullOf(3).whole(5), 0);
        NearRanks turned = Kit.countedTo(32);
        Kit.due("those of a full row", turned.whole(5), 0);
        Kit.due("those of a full row that is all wrong", turned.setOrder(true), 496);
        Kit.due("those of its first one", turned.element(0, 5), 31);
        Kit.due("those of its last one", turned.element(31, 5), 31);
    }

    // ---- mending

    private static void stepsAtTheEnds() {
        Kit.about("The fall nearest to it on its left, or on its right");
        NearRanks late = Kit.countedTo(31);
        late.append(-1);
        Kit.due("the step of the last of 32", late.step(), 30);
        Kit.due("the next one", late.step(), 29);
        NearRanks early = Kit.countedTo(31);
        early.insert(0, 99);
        Kit.due("the step of the first of 32", early.step(), 0);
        Kit.due("the next one", early.step(), 1);
        NearRanks two = Kit.rowOf(1, 0);
        two.setBound(0);
        Kit.due("the step of two elements", two.step(), 0);
        Kit.due("a step in bound", two.step(), NONE);
    }

    private static void stepsOfSeveral() {
        Kit.about("The greatest distance without its sign, of several the one at the lowest place");
        NearRanks lowIsEarly = Kit.rowOf(2, 1, 0, 5, 4, 3);
        lowIsEarly.setBound(1);
        Kit.due("the distances", Kit.elementsOf(lowIsEarly, 2), "-2 0 2 -2 0 2");
        Kit.due("the step", lowIsEarly.step(), 0);
        NearRanks lowIsLate = Kit.rowOf(1, 2, 0, 5, 3, 4);
        lowIsLate.setBound(1);
        Kit.due("the distances", Kit.elementsOf(lowIsLate, 2), "-1 -1 2 -2 1 1");
        Kit.due("the step", lowIsLate.step(), 1);
        NearRanks highIsGreater = Kit.rowOf(1, 2, 0, 6, 3, 4, 5);
        highIsGreater.setBound(1);
        Kit.due("the distances", Kit.elementsOf(highIsGreater, 2), "-1 -1 2 -3 1 1 1");
        Kit.due("the step", highIsGreater.step(), 3);
    }

    private static void mendUntilInBound() {
        Kit.about("To mend means to do steps until the row is in bound");
        for (int bound = 0; bound <= 31; bound++) {
            NearRanks x = Kit.countedTo(31);
            x.append(-1);
            x.setBound(bound);
            Kit.due("mend with the bound " + bound, x.mend(), 31 - bound);
            Kit.due("the place where it stops", x.at(bound), -1);
            Kit.due("broken ones", x.whole(4), 0);
            Kit.due("mend again", x.mend(), 0);
        }
        Kit.due("mend of one element", Kit.rowOf(1).mend(), 0);
        Kit.due("mend of an empty row", new NearRanks().mend(), 0);
    }

    /** A row that any change below puts out of its bound, 0, is mended when the change ends. */
    private static void mends(String call, int steps, Consumer<NearRanks> change) {
        NearRanks x = Kit.rowOf(1, 2, 3);
        x.setBound(0);
        x.setSelf(true);
        change.accept(x);
        Kit.due("steps by " + call, x.whole(7), steps);
        Kit.due("broken ones after " + call, x.whole(4), 0);
    }

    private static void eachChangeMendsByItself() {
        Kit.about("As long as it is on, the row is mended at the end of each change");
        mends("append", 3, x -> x.append(0));
        mends("insert", 3, x -> x.insert(0, 4));
        mends("setValue", 2, x -> x.setValue(0, 4));
        mends("swap", 1, x -> x.swap(1));
        mends("setOrder", 3, x -> x.setOrder(true));
        mends("removeAt", 0, x -> x.removeAt(0));
        NearRanks own = Kit.rowOf(3, 2, 1);
        Kit.due("steps by setSelf in bound", own.setSelf(true), 0);
        Kit.due("broken ones by setBound", own.setBound(0), 2);
        Kit.due("steps by setBound", own.whole(7), 3);
        NearRanks late = Kit.rowOf(3, 2, 1);
        late.setBound(0);
        Kit.due("steps by setSelf", late.setSelf(true), 3);
    }

    private static void noChangeMendsWhenOff() {
        Kit.about("There is a switch for mending by itself, off at first");
        NearRanks x = Kit.rowOf(9, 8, 7, 6, 5);
        x.insert(0, 10);
        x.setValue(5, -5);
        x.swap(0);
        x.removeAt(0);
        x.setBound(0);
        x.setOrder(true);
        x.setOrder(false);
        x.setSelf(false);
        Kit.typeText(x, "add 1;del 0;");
        x.runCommands();
        Kit.due("steps", x.whole(7), 0);
        x.setSelf(true);
        int steps = x.whole(7);
        x.setSelf(false);
        x.append(-9);
        Kit.due("steps after it was switched off", x.whole(7), steps);
        Kit.due("broken ones are left", x.whole(4), 6);
    }

    // ---- searching

    private static void search(NearRanks x, long value, int place, int looks, int low, int high) {
        Kit.due("found(" + value + ", 0)", x.found(value, 0), place);
        Kit.due("found(" + value + ", 1)", x.found(value, 1), looks);
        Kit.due("found(" + value + ", 2)", x.found(value, 2), low);
        Kit.due("found(" + value + ", 3)", x.found(value, 3), high);
        int before = x.whole(8);
        Kit.due("search(" + value + ")", x.search(value), place);
        Kit.due("the looks of it", x.whole(8) - before, looks);
    }

    private static void windowThatIsHalved() {
        Kit.about("As long as high - low > 2 * W + 2");
        NearRanks two = Kit.countedTo(2);
        two.setBound(0);
        search(two, 0, 0, 1, 0, 2);
        search(two, 1, 1, 2, 0, 2);
        NearRanks three = Kit.countedTo(3);
        three.setBound(0);
        search(three, 0, 0, 2, 0, 2);
        search(three, 1, 1, 1, NONE, NONE);
        search(three, 2, 2, 3, 1, 3);
        NearRanks ten = Kit.countedTo(10);
        search(ten, 9, 9, 10, 0, 10);
        NearRanks eleven = Kit.countedTo(11);
        search(eleven, 5, 5, 1, NONE, NONE);
        search(eleven, 10, 10, 11, 1, 11);
        search(eleven, 0, 0, 2, 0, 10);
    }

    private static void widestWindowThatIsHalved() {
        Kit.about("As long as high - low > 2 * W + 2, in the longest rows");
        NearRanks thirty = Kit.countedTo(30);
        thirty.setBound(7);
        search(thirty, 29, 29, 30, 0, 30);
        NearRanks full = Kit.countedTo(32);
        full.setBound(7);
        search(full, 16, 16, 1, NONE, NONE);
        search(full, 15, 15, 2, NONE, NONE);
        search(full, 0, 0, 3, 0, 30);
        search(full, 31, 31, 31, 2, 32);
        search(full, 32, NONE, 31, 2, 32);
        search(full, -1, NONE, 32, 0, 30);
        full.setBound(8);
        search(full, 31, 31, 32, 0, 32);
        search(full, 32, NONE, 32, 0, 32);
        full.setBound(31);
        search(full, 0, 0, 1, 0, 32);
    }

    private static void fromLowOnBelowHigh() {
        Kit.about("The elements from low on, below high, are looked at one by one");
        NearRanks atLow = Kit.rowOf(0, 9, 2, 3, 4, 5, 6);
        atLow.setBound(1);
        search(atLow, 9, 1, 2, 1, 7);
        NearRanks belowLow = Kit.rowOf(9, 0, 2, 3, 4, 5, 6);
        belowLow.setBound(1);
        search(belowLow, 9, NONE, 7, 1, 7);
        NearRanks belowHigh = Kit.rowOf(0, 1, 2, 3, 4, -5, 6);
        belowHigh.setBound(1);
        search(belowHigh, -5, 5, 7, 0, 6);
        NearRanks atHigh = Kit.rowOf(0, 1, 2, 3, 4, 5, -6);
        atHigh.setBound(1);
        search(atHigh, -6, NONE, 7, 0, 6);
    }

    private static void looksAgain() {
        Kit.about("Each element that is looked at is a look, also if it is looked at again");
        NearRanks x = Kit.rowOf(0, 1, 2, 3, 4, 5, 6);
        x.setBound(1);
        search(x, 6, 6, 7, 1, 7);
        search(x, 4, 4, 5, 1, 7);
        search(x, 3, 3, 1, NONE, NONE);
    }

    private static void searchOfAnEmptyRow() {
        Kit.about("If none has, the value is not found; high is the number of elements");
        NearRanks empty = new NearRanks();
        search(empty, 0, NONE, 0, 0, 0);
        empty.setBound(0);
        search(empty, 0, NONE, 0, 0, 0);
        NearRanks one = Kit.rowOf(0);
        one.setBound(0);
        search(one, 0, 0, 1, 0, 1);
        search(one, 1, NONE, 1, 0, 1);
    }

    private static void eachValueInBoundIsFound() {
        Kit.about("In a row that is in bound, each value that is there is found");
        for (int bound = 0; bound <= 31; bound++) {
            NearRanks x = new NearRanks();
            for (int i = 0; i < 32; i++) {
                x.append(i * 13 % 32 - i % 3);
            }
            x.setBound(bound);
            x.mend();
            Kit.due("lost values with the bound " + bound, x.lostValues(), 0);
        }
    }

    // ---- undo

    private static void savesOnAnEmptyStack(String call, Consumer<NearRanks> run) {
        NearRanks x = new NearRanks();
        String before = Kit.stateOf(x);
        run.accept(x);
        Kit.due("the state after " + call, Kit.stateOf(x), before);
        Kit.due("undo() of " + call, Kit.thrownBy(x::undo), "nothing");
        Kit.due("undo() once more after " + call, Kit.thrownBy(x::undo), "IllegalStateException");
    }

    private static void savedAlsoIfNothingChanges() {
        Kit.about("Undoable: saves the state when it ends normally, also if it changes nothing");
        savesOnAnEmptyStack("setBound(2)", x -> x.setBound(2));
        savesOnAnEmptyStack("setOrder(false)", x -> x.setOrder(false));
        savesOnAnEmptyStack("setSelf(false)", x -> x.setSelf(false));
        savesOnAnEmptyStack("step()", NearRanks::step);
        savesOnAnEmptyStack("mend()", NearRanks::mend);
        savesOnAnEmptyStack("search(0)", x -> x.search(0));
        savesOnAnEmptyStack("runCommands()", NearRanks::runCommands);
        NearRanks same = Kit.rowOf(5);
        same.setValue(0, 5);
        Kit.due("undo() of setValue to the same", same.undo(), 1);
        Kit.due("the elements", same.whole(0), 1);
        NearRanks equal = Kit.rowOf(5, 5);
        equal.swap(0);
        Kit.due("undo() of a swap of equal ones", equal.undo(), 2);
        Kit.due("the numbers", Kit.elementsOf(equal, 0), "0 1");
    }

    private static void latestFourStates() {
        Kit.about("The stack keeps the latest 4 saved states and drops older ones");
        NearRanks four = Kit.countedTo(4);
        for (int left = 3; left >= 0; left--) {
            Kit.due("undo() of four", four.undo(), left);
        }
        Kit.due("the elements", four.whole(0), 0);
        Kit.refused("undo() of a fifth", four, STATE, four::undo);
        NearRanks five = Kit.countedTo(5);
        for (int left = 3; left >= 0; left--) {
            Kit.due("undo() of five", five.undo(), left);
        }
        Kit.due("the elements", five.whole(0), 1);
        Kit.refused("undo() of the dropped one", five, STATE, five::undo);
    }

    private static void stackThatGoesRound() {
        Kit.about("The stack keeps the latest 4 saved states, wherever it stands");
        for (int changes = 0; changes <= 24; changes++) {
            NearRanks x = Kit.countedTo(changes);
            int most = Math.min(changes, 4);
            int taken = 0;
            for (; taken < most && taken < 3; taken++) {
                Kit.due("undo()", x.undo(), most - taken - 1);
                Kit.due("the elements", x.whole(0), changes - taken - 1);
            }
            x.setBound(9);
            x.setBound(10);
            Kit.due("undo() of the latest", x.undo(), most - taken + 1);
            Kit.due("the bound", x.whole(1), 9);
            Kit.due("undo() of the one before", x.undo(), most - taken);
            Kit.due("the bound", x.whole(1), 2);
            Kit.due("the elements", x.whole(0), changes - taken);
        }
    }

    /** A row with four saved states that any undoable call does something to. */
    private static NearRanks fourSaved() {
        NearRanks x = Kit.rowOf(5, 1, 9, 3, 3, 7, 0);
        Kit.typeText(x, "add 5;bound 0;mend;del 2;");
        return x;
    }

    private static void eachUndoableCallDropsTheOldest() {
        Kit.about("The saved state is the one from before the call, on top of the latest ones");
        Kit.savesOneState("append", EdgesOfTermsTest::fourSaved, x -> x.append(4));
        Kit.savesOneState("insert", EdgesOfTermsTest::fourSaved, x -> x.insert(7, 4));
        Kit.savesOneState("removeAt", EdgesOfTermsTest::fourSaved, x -> x.removeAt(6));
        Kit.savesOneState("setValue", EdgesOfTermsTest::fourSaved, x -> x.setValue(6, 4));
        Kit.savesOneState("swap", EdgesOfTermsTest::fourSaved, x -> x.swap(5));
        Kit.savesOneState("setBound", EdgesOfTermsTest::fourSaved, x -> x.setBound(31));
        Kit.savesOneState("setOrder", EdgesOfTermsTest::fourSaved, x -> x.setOrder(true));
        Kit.savesOneState("setSelf", EdgesOfTermsTest::fourSaved, x -> x.setSelf(true));
        Kit.savesOneState("step", EdgesOfTermsTest::fourSaved, NearRanks::step);
        Kit.savesOneState("mend", EdgesOfTermsTest::fourSaved, NearRanks::mend);
        Kit.savesOneState("search", EdgesOfTermsTest::fourSaved, x -> x.search(3));
        Kit.savesOneState("runCommands", EdgesOfTermsTest::fourSaved, NearRanks::runCommands);
    }

    private static void allButTheCommandText() {
        Kit.about("Saves the whole state but the command text");
        NearRanks x = Kit.rowOf(2, 1);
        String before = Kit.stateOf(x) + x.whole(10);
        Kit.typeText(x, "bound 0;put 1 8;mend;add 7;set 0 6;del 1;");
        x.runCommands();
        Kit.due("undo() of a run", x.undo(), 2);
        Kit.due("the text stays", x.whole(11), 41);
        x.clearCommands();
        Kit.due("the rest is back", Kit.stateOf(x) + x.whole(10), before);
        x.setBound(7);
        Kit.typeText(x, "mend;");
        x.setOrder(true);
        x.clearCommands();
        x.undo();
        Kit.due("a text that was emptied stays empty", x.whole(11), 0);
        x.undo();
        Kit.due("the bound", x.whole(1), 2);
        Kit.due("the run of the empty text", x.runCommands(), 0);
    }

    // ---- exceptions

    private static void refusedCallsChangeNothing() {
        Kit.about("A call that throws an exception changes nothing");
        Kit.refusedWholly("append", STATE, () -> Kit.countedTo(32), x -> x.append(1));
        Kit.refusedWholly("insert, full", STATE, () -> Kit.countedTo(32), x -> x.insert(0, 1));
        Kit.refusedWholly("insert", ARGUMENT, EdgesOfTermsTest::fourSaved, x -> x.insert(8, 1));
        Kit.refusedWholly("removeAt", INDEX, EdgesOfTermsTest::fourSaved, x -> x.removeAt(7));
        Kit.refusedWholly("setValue", INDEX, EdgesOfTermsTest::fourSaved, x -> x.setValue(7, 1));
        Kit.refusedWholly("swap", INDEX, EdgesOfTermsTest::fourSaved, x -> x.swap(6));
        Kit.refusedWholly("setBound", ARGUMENT, EdgesOfTermsTest::fourSaved, x -> x.setBound(32));
        Kit.refusedWholly("at", INDEX, EdgesOfTermsTest::fourSaved, x -> x.at(7));
        Kit.refusedWholly("element", INDEX, EdgesOfTermsTest::fourSaved, x -> x.element(7, 0));
        Kit.refusedWholly("element", ARGUMENT, EdgesOfTermsTest::fourSaved, x -> x.element(0, 6));
        Kit.refusedWholly("ranked", INDEX, EdgesOfTermsTest::fourSaved, x -> x.ranked(7));
        Kit.refusedWholly("whole", ARGUMENT, EdgesOfTermsTest::fourSaved, x -> x.whole(12));
        Kit.refusedWholly("found", ARGUMENT, EdgesOfTermsTest::fourSaved, x -> x.found(1, 4));
        Kit.refusedWholly("stepsFor", ARGUMENT, EdgesOfTermsTest::fourSaved, x -> x.stepsFor(32));
        Kit.refusedWholly("type", ARGUMENT, EdgesOfTermsTest::fourSaved, x -> x.type(128));
        Kit.refusedWholly("undo", STATE, NearRanks::new, NearRanks::undo);
    }

    private static void firstOfSeveralExceptions() {
        Kit.about("If several exceptions apply, the one that is listed first is thrown");
        NearRanks full = Kit.fullRow();
        Kit.refused("insert(33), full", full, ARGUMENT, () -> full.insert(33, 0));
        Kit.refused("insert(-1), full", full, ARGUMENT, () -> full.insert(-1, 0));
        Kit.refused("element(32, 6)", full, INDEX, () -> full.element(32, 6));
        Kit.refused("element(-1, -1)", full, INDEX, () -> full.element(-1, -1));
        Kit.typeText(full, " ".repeat(150));
        Kit.refused("type(128), full", full, ARGUMENT, () -> full.type(128));
        Kit.refused("type(-1), full", full, ARGUMENT, () -> full.type(-1));
    }

    private static void noneOnlyWithoutAnException() {
        Kit.about("NONE is returned only if no exception applies");
        NearRanks empty = new NearRanks();
        Kit.due("found of no value", empty.found(1, 0), NONE);
        Kit.refused("found(1, 4)", empty, ARGUMENT, () -> empty.found(1, 4));
        Kit.refused("found(1, -1)", empty, ARGUMENT, () -> empty.found(1, -1));
        Kit.refused("found(1, NONE)", empty, ARGUMENT, () -> empty.found(1, NONE));
        NearRanks own = Kit.rowOf(NONE);
        Kit.due("a value that is NONE", own.search(NONE), 0);
        Kit.due("at(0)", own.at(0), NONE);
        Kit.refused("ranked(NONE)", own, INDEX, () -> own.ranked(NONE));
    }
}
