/** The sentences of the sections "Years", "Snapshots", "Undo" and "Errors", and of promises 14 to 16. */
final class StateSentences {
    private static final String SOME = Sentences.SOME;
    private static final String FULL = Sentences.FULL;
    private static final String TWO = "come(1) come(2) addBank(300,1000) addBank(900,1000)"
        + " grant(0,0,1) grant(0,1,1) grant(1,0,1) grant(1,1,1)";

    private StateSentences() {
    }

    static void tell(Sentences s) {
        years(s);
        snapshots(s);
        history(s);
        errors(s);
        severalErrors(s);
        take(s);
        restore(s);
        undo(s);
    }

    private static void years(Sentences s) {
        s.in("Years");
        s.says("Year 0 begins at first");
        s.due("count(0)=0 endYear() count(0)=1 endYear() count(0)=2");

        s.says(
            "When a year ends, all stacks are gone, and their turfs are left on their banks; then nothing has been cut this"
                + " year, and the rain of the day before is 0");
        s.due(
            TWO + " cut(0,0,10) cut(1,0,20) cut(0,1,40) day(1,5) count(5)=5 bank(0,3)=800 endYear()=70 count(3)=0"
                + " stack(0,0)=-1 bank(0,8)=30 bank(1,8)=40 bank(0,6)=0 bank(1,6)=0 right(0,0,1)=0 right(1,0,1)=0"
                + " right(0,1,1)=0 count(5)=0 bank(0,3)=1000 bank(1,3)=1000 count(0)=1 household(0,4)=0 household(0,5)=0"
                + " count(4)=0",
            TWO + " cut(0,0,100) cut(0,0,1)=-2 endYear()=100 right(0,0,2)=100 cut(0,0,100)=0 bank(0,5)=200 bank(0,8)=100",
            TWO + " cut(0,0,100) cart(0,60) endYear()=40 bank(0,8)=40 cut(0,0,7) endYear()=7 bank(0,8)=47 endYear()=0"
                + " bank(0,8)=47",
            TWO + " cut(0,0,9) turn(0)*3 day(9,0)*2 count(4)=1 endYear()=9 count(4)=0");

        s.says("Sheds and wear stay");
        s.due(
            TWO + " cut(1,0,50) turn(0)*3 cart(0,20)=40 day(9,0)*2 cart(0,10)=12 endYear()=20 household(1,1)=10"
                + " household(1,2)=20 bank(0,2)=2 bank(0,3)=998 bank(0,7)=30 endYear()=0 household(1,1)=10 bank(0,2)=2");
    }

    private static void snapshots(Sentences s) {
        s.in("Snapshots");
        s.says("There are two slots for snapshots, empty at first");
        s.due(
            "count(7)=0 restore(0)=-2 restore(1)=-2 take(1)=0 count(7)=1 restore(0)=-2 restore(1)=0 take(0)=0 count(7)=2"
                + " restore(0)=0 restore(1)=0 take(1)=0 count(7)=2");
        s.refused("", "restore(0)=-2", "restore(1)=-2", "take(2)=-1", "restore(2)=-1", "take(-1)=-1", "restore(-1)=-1");

        s.says(
            "A snapshot keeps households, rights, banks, stacks, roads, sheds, accounts, the year, the number of days that"
                + " have passed so far and the rain of the day before");
        String[] changes = {
            "come(9)", "setSpades(0,9)", "setSpades(1,1)", "addBank(5,500)", "setAllowance(0,9)", "setAllowance(1,9)",
            "grant(0,1,1)", "grant(1,0,0)", "cut(0,0,5)", "cut(1,1,50)", "turn(0)", "cut(0,0,5) join(3,1)", "cart(0,40)",
            "cart(1,5)", "cart(2,41)", "turn(1)*3 day(9,0)*3 cart(1,5)", "repair(0)", "day(0,0)", "day(9,9)", "day(0,2)",
            "endYear()", "endYear() cut(0,0,200) day(5,5) endYear()", "'house 9;bank 9 900;day 9 0;' run()", "take(0) endYear()",
        };
        for (String change : changes) {
            String plain = SOME + " clearText() take(1)";
            s.looksTheSame(plain, plain + " " + change + " restore(1)");
            s.looksTheSame(plain, plain + " " + change + " restore(1) " + change + " restore(1)");
        }
        // What has been cut this year and the days go on from where they were.
        s.due(
            TWO + " cut(0,0,60) day(1,1) take(0) cut(0,0,40) day(1,1) endYear() restore(0) right(0,0,1)=60 cut(0,0,41)=-2"
                + " cut(0,0,40)=1 count(6)=1 day(0,0) count(6)=2 count(0)=0",
            "take(0) day(0,3)*4 endYear() count(6)=4 restore(0)=0 count(6)=0 count(0)=0 count(5)=0");

        s.says("To restore it makes all this as it was; nothing else changes");
        s.due(
            "take(0) come(1) 'abc' take(1) count(8)=3 restore(0) count(8)=4 count(9)=3 count(7)=2 count(1)=0 restore(1)"
                + " count(1)=1 count(8)=5",
            "'house 0;' take(0) restore(0) run()=-1000 count(9)=8",
            "come(1) take(0) come(2) restore(0) undo()=3 count(1)=2 undo()=2 count(1)=1 undo()=1 count(7)=0 undo()=0 count(1)=0");
        s.looksTheSame(SOME + " take(1) come(3) take(0) restore(1) restore(0)", SOME + " take(1) come(3) take(0)");
    }

    private static void history(Sentences s) {
        s.in("Undo");
        s.says(
            "A history of at most 5 states is kept; a state is everything but the text and the history (the snapshots belong"
                + " to it)");
        s.due(
            "count(8)=0 come(1) count(8)=1 come(1) count(8)=2 come(1) count(8)=3 come(1) count(8)=4 come(1) count(8)=5 come(1)"
                + " count(8)=5 undo()=4 undo()=3 undo()=2 undo()=1 undo()=0 undo()=-2 count(1)=1",
            "come(1) 'abc' undo()=0 count(9)=3",
            "'ab' come(1) clearText() undo()=0 count(9)=0",
            "take(1) undo()=0 count(7)=0 restore(1)=-2",
            "take(0) come(1) take(0) undo()=2 restore(0) count(1)=0 undo()=2 count(1)=1",
            "come(1) take(0) come(1) come(1) restore(0) undo()=4 count(1)=3 restore(0) count(1)=1");
        String[] changes = {
            "come(9)", "setSpades(0,9)", "addBank(5,500)", "setAllowance(0,9)", "grant(0,1,1)", "cut(0,0,5)", "turn(0)",
            "cart(0,40)", "repair(0)", "day(5,5)", "endYear()", "take(0)", "take(1)", "restore(0)",
        };
        for (String change : changes) {
            s.same(SOME, SOME + " " + change + " undo()");
            s.same(SOME + " undo()", SOME + " " + change + " undo()*2");
        }
        // Later actions and the text leave the kept states alone.
        s.same(SOME, SOME + " undo()*2 turn(0) day(9,2) clearText() 'turn 0; x'");

        s.says(
            "Every successful call of a method that is called an action records the state before it (also if nothing changes"
                + " by it); when a sixth one is recorded, the oldest one is dropped");
        for (String call : new String[] {
            "setSpades(0,2)", "setAllowance(0,700)", "grant(0,0,1)", "grant(0,1,0)", "repair(1)=0", "restore(0)", "take(0)",
            "clearText() run()=0 'turn 0; x'"}) {
            s.due(SOME + " count(8)=4 " + call + " count(8)=5");
            s.same(SOME, SOME + " " + call + " undo()");
        }
        s.due(
            "restore(0)=-2 take(0) take(0) restore(0) count(8)=3 repair(0)=-1 come(0)=-1 count(8)=3",
            "come(1) setSpades(0,2) setSpades(0,3) setSpades(0,4) setSpades(0,5) setSpades(0,6) setSpades(0,7) setSpades(0,8)"
                + " count(8)=5 undo() household(0,0)=7 undo() household(0,0)=6 undo() household(0,0)=5 undo() household(0,0)=4"
                + " undo()=0 household(0,0)=3 undo()=-2 household(0,0)=3",
            "come(1) count(8)=1 'x' count(9)=1 clearText() count(1)=1 household(0,0)=1 worth(0,0)=0 count(8)=1");

        s.says("undo() removes the latest state from the history and restores it");
        s.due(
            "come(1) come(2) undo()=1 count(1)=1 come(3)=1 household(1,0)=3 undo()=1 undo()=0 count(1)=0 come(4)=0"
                + " household(0,0)=4 undo()=0");
    }

    /** Refused calls of every method, on a new object, on one with something of everything, and on a full one. */
    private static void errors(Sentences s) {
        s.in("Errors");
        s.says("A call that returns an error code changes nothing");
        s.refused("", "come(0)=-1", "setSpades(0,1)=-1", "addBank(0,99)=-1", "setAllowance(0,0)=-1", "grant(0,0,1)=-1",
            "cut(0,0,1)=-1", "turn(0)=-1", "join(0,1)=-1", "cart(0,1)=-1", "repair(0)=-1", "day(10,0)=-1", "take(2)=-1",
            "restore(0)=-2", "restore(2)=-1", "undo()=-2", "append(0)=-1", "count(10)=-1", "household(0,0)=-1", "bank(0,0)=-1",
            "right(0,0,0)=-1", "stack(0,0)=-1", "dryIn(0,9,0)=-1", "cartLoad(0)=-1", "carts(0)=-1", "worth(0,0)=-1",
            "nextToCut(0)=-1");
        s.refused(SOME, "come(10)=-1", "setSpades(0,0)=-1", "setSpades(2,1)=-1", "addBank(5001,100)=-1", "setAllowance(2,0)=-1",
            "grant(0,0,2)=-1", "grant(2,0,1)=-1", "cut(0,0,0)=-1", "cut(0,1,1)=-2", "turn(3)=-1", "join(1,2)=-2", "join(0,2)=-2",
            "join(1,1)=-1", "cart(0,41)=-2", "cart(0,0)=-1", "cart(3,1)=-1", "repair(2)=-1", "day(0,10)=-1", "take(-1)=-1",
            "restore(1)=-2", "append(256)=-1", "run()=-1008", "household(2,0)=-1", "bank(2,0)=-1", "right(2,0,0)=-1",
            "stack(3,0)=-1", "dryIn(0,10,0)=-1", "cartLoad(3)=-1", "carts(-1)=-1", "worth(0,-1)=-1", "nextToCut(2)=-1");
        s.refused(FULL, "come(1)=-3", "addBank(0,100)=-3", "cut(0,0,1)=-3", "turn(0)=-3", "append(32)=-3", "join(0,1)=-2",
            "cart(0,2)=-2", "run()=-1021", "take(2)=-1");
        s.still(SOME, "dryIn(0,0,0)=-9");
        s.still(FULL, "dryIn(0,0,9)=-9");
    }

    private static void severalErrors(Sentences s) {
        s.in("Errors");
        s.says(
            "If several error conditions apply, the method returns the one that its description lists first; NONE is no error,"
                + " and it is returned only if no error condition applies");
        String wet = "come(1) come(1) addBank(100,100) addBank(0,100) grant(0,0,1) cut(0,0,40) cut(0,0,60)";
        s.refused(FULL, "come(0)=-1", "come(10)=-1", "addBank(0,99)=-1", "addBank(-1,100)=-1", "addBank(5001,3001)=-1",
            "cut(0,0,0)=-1", "cut(0,0,1001)=-1", "cut(6,0,1)=-1", "cut(0,4,1)=-1", "cut(0,0,101)=-2", "turn(12)=-1",
            "append(0)=-1", "append(256)=-1");
        s.refused(wet, "cut(0,0,0)=-1", "cut(1,0,1001)=-1", "cut(1,2,1)=-1", "cut(2,1,1)=-1", "cart(0,1001)=-1",
            "cart(2,1001)=-1", "cart(2,41)=-1", "cart(0,0)=-1");
        s.refused(wet + " day(0,9)", "cart(0,1001)=-1", "cart(0,0)=-1", "cart(2,1)=-1");
        s.refused(TWO + " cut(0,0,1) cut(1,1,1)", "join(0,2)=-1", "join(2,0)=-1", "join(1,1)=-1", "join(-1,0)=-1");
        s.refused("", "restore(-1)=-1", "restore(2)=-1", "take(-1)=-1");
        // NONE would be the answer if the argument were in range.
        s.due(
            wet + " dryIn(0,0,0)=-9 dryIn(0,-1,0)=-1 dryIn(0,0,-1)=-1 dryIn(0,0,10)=-1 dryIn(2,0,0)=-1 dryIn(-1,0,0)=-1",
            wet + " day(0,9) cartLoad(0)=-9 cartLoad(2)=-1 cartLoad(-1)=-1 carts(0)=-9 carts(2)=-1 carts(-1)=-1",
            wet + " nextToCut(0)=-9 nextToCut(1)=-9 nextToCut(2)=-1 nextToCut(-1)=-1",
            TermsSentences.TURNED + " day(9,0)*2 cart(0,2) worth(0,2000000000)=-9 worth(0,2000000001)=-1"
                + " worth(1,2000000000)=-1 worth(-1,2000000000)=-1 worth(0,-1)=-1");

        s.says("The constants: `INVALID_ARGUMENT = -1`: An argument is out of range, or names something that does not exist");
        s.equal("INVALID_ARGUMENT", PeatShares.INVALID_ARGUMENT, -1);
        s.refused("come(1)", "come(0)=-1", "setSpades(1,1)=-1");
        s.says("`ILLEGAL_STATE = -2`: The call is not possible in the present state");
        s.equal("ILLEGAL_STATE", PeatShares.ILLEGAL_STATE, -2);
        s.refused("", "undo()=-2");
        s.says("`CAPACITY_EXCEEDED = -3`: There is no room");
        s.equal("CAPACITY_EXCEEDED", PeatShares.CAPACITY_EXCEEDED, -3);
        s.refused("come(1)*6", "come(1)=-3");
        s.says("`NONE = -9`: There is no such value");
        s.equal("NONE", PeatShares.NONE, -9);
        s.still("addBank(0,100)", "nextToCut(0)=-9");
    }

    private static void take(Sentences s) {
        s.in("Promise 14");
        s.says("`int take(int slot)`: Takes a snapshot, in place of one that is there");
        s.due(
            "come(1) take(0) come(2) take(0) count(7)=1 come(3) restore(0) count(1)=2",
            "take(0) come(1) take(1) restore(0) count(1)=0 restore(1) count(1)=1",
            "come(1) take(1) setSpades(0,9) restore(1) household(0,0)=1");
        s.says("This is an action");
        s.action(SOME, "take(0)");
        s.action(SOME, "take(1)");
        s.says("- `slot`: 0 or 1");
        s.range(SOME, "take(#)", 0, 1);
        s.says("Returns the year");
        s.due("take(0)=0 endYear() take(0)=1 endYear()*6 take(1)=7");
        s.says("INVALID_ARGUMENT if slot is out of range");
        s.refused(FULL, "take(-1)=-1", "take(2)=-1");
    }

    private static void restore(Sentences s) {
        s.in("Promise 15");
        s.says("`int restore(int slot)`: Restores a snapshot, which stays");
        s.due(
            "come(1) take(0) come(2) restore(0) count(1)=1 count(7)=1 come(3) come(4) restore(0) count(1)=1 household(0,0)=1",
            TWO + " take(1) cut(0,0,9) restore(1) cut(1,0,8) stack(0,0)=1 restore(1) count(3)=0 count(7)=1");
        s.says("This is an action");
        s.action(SOME, "restore(0)");
        s.action("come(1) take(1) come(2)", "restore(1)");
        s.says("- `slot`: 0 or 1");
        s.range("take(0) take(1)", "restore(#)", 0, 1);
        s.says("Returns the year then");
        s.due("take(0) endYear()*3 take(1)=3 restore(0)=0 count(0)=0 restore(1)=3 count(0)=3");
        s.says("INVALID_ARGUMENT if slot is out of range");
        s.refused(FULL, "restore(-1)=-1", "restore(2)=-1");
        s.says("ILLEGAL_STATE if the slot is empty");
        s.refused("take(1) come(1)", "restore(0)=-2");
        s.refused("take(0) come(1)", "restore(1)=-2");
        s.due("take(0) undo() restore(0)=-2");
    }

    private static void undo(Sentences s) {
        s.in("Promise 16");
        s.says("`int undo()`: Removes the latest state from the history and restores it");
        s.due(
            "come(1) setSpades(0,5) endYear() undo() count(0)=0 household(0,0)=5 undo() household(0,0)=1 undo() count(1)=0",
            "come(1) undo()=0 come(2) undo()=0 count(1)=0");
        s.says("Returns the number of states that are left in the history");
        s.due("come(1)*5 undo()=4 undo()=3 undo()=2 undo()=1 undo()=0", "come(1)*6 undo()=4", "come(1) undo()=0");
        s.says("ILLEGAL_STATE if it is empty");
        s.refused("", "undo()=-2");
        s.refused("come(1)*6 undo()*5", "undo()=-2");
        s.refused("take(0) 'turn 0;' undo()", "undo()=-2");
        s.refused("come(0)=-1 'house 1'", "undo()=-2");
    }
}
