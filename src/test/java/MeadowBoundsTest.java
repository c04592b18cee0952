/** The bounds of promises 10 to 15, and of what 'Terms' says of meadows and beds. */
public final class MeadowBoundsTest {
    private static final int NONE = HiveLedger.NONE;
    private static final int MIN = Due.MIN;
    private static final int MAX = Due.MAX;

    public static void main(String[] args) {
        allMeadowsAreLostAtFirst();
        for (int meadow = 0; meadow < 4; meadow++) {
            noBeds(meadow);
            noCells(meadow);
            fullMeadow(meadow);
            laidAgainIsAllZero(meadow);
            bedsAreNoOthers(meadow);
            cutAlsoIfItIs(meadow);
            cutMeadowAlsoIfItIs(meadow);
            for (int other = 0; other < 4; other++) {
                joinedBedsAreOne(meadow, other);
                joinOfLostBeds(meadow, other);
                joinWithLostBeds(meadow, other);
                joinFaultsOfTheFirstAhead(meadow, other);
            }
        }
        joinWithItself();
        joinOfMany();
        joinBringsTheOthersWidth();
        joinOfTheLastBeds();
        joinedTillOneIsCut();
        joinedTillTheMeadowIsCut();
        joinedTillAnotherMeadowIsMade();
        faultsLeaveJoinedBedsOne();
        bedNoneIsTheMeadowForCutAndWidthOnly();
        widthCountsLostBeds();
        tendAtTheLastCell();
        Due.end();
    }

    /** Promise 1: 'All .. meadows are lost', 'a meadow is lost (at first)' */
    private static void allMeadowsAreLostAtFirst() {
        HiveLedger x = new HiveLedger();
        for (int meadow = 0; meadow < 4; meadow++) {
            Due.dueFault(x, "width of meadow " + meadow, x.width(meadow, NONE), 1);
            Due.dueFault(x, "width of a bed", x.width(meadow, 0), 1);
            Due.dueFault(x, "see", x.see(meadow, 0, 0), 1);
            Due.due("tend", x.tend(meadow, 0, 0, 11, 0), 1);
            Due.due("cut of a bed", x.cut(meadow, 0), 1);
            Due.due("join", x.join(meadow, 0, meadow, 0), 1);
        }
    }

    /** A meadow of no beds is not lost. */
    private static void noBeds(int meadow) {
        for (int cells : new int[] {0, 1, 20}) {
            HiveLedger x = new HiveLedger();
            Due.due("meadow of no beds", x.meadow(meadow, 0, cells), 0);
            Due.dueFault(x, "width of no beds", x.width(meadow, NONE), 0);
            Due.dueFault(x, "width of bed 0 of none", x.width(meadow, 0), 2);
            Due.dueFault(x, "see bed 0 of none", x.see(meadow, 0, 0), 2);
            Due.due("cut of bed 0 of none", x.cut(meadow, 0), 2);
        }
    }

    /** Beds of no cells are not lost. */
    private static void noCells(int meadow) {
        HiveLedger x = new HiveLedger();
        Due.due("meadow of no cells", x.meadow(meadow, 20, 0), 0);
        Due.due("beds", x.width(meadow, NONE), 20);
        for (int bed = 0; bed < 20; bed++) {
            Due.dueFault(x, "width of no cells", x.width(meadow, bed), 0);
        }
        Due.dueFault(x, "see cell 0 of none", x.see(meadow, 19, 0), 2);
        Due.due("tend cell 0 of none", x.tend(meadow, 19, 0, 11, 0), 2);
    }

    /** 'BEDS 0, 1, .., at most 20, with cells (BLOSSOMS: ints), at most 20' */
    private static void fullMeadow(int meadow) {
        HiveLedger x = new HiveLedger();
        Due.due("meadow of 20 by 20", x.meadow(meadow, 20, 20), 0);
        Due.due("beds", x.width(meadow, NONE), 20);
        for (int bed = 0; bed < 20; bed++) {
            Due.due("width", x.width(meadow, bed), 20);
            for (int cell = 0; cell < 20; cell++) {
                Due.due("see", x.see(meadow, bed, cell), 0);
            }
        }
        Due.due("fault()", x.fault(), 0);
        Due.dueFault(x, "see bed 20", x.see(meadow, 20, 0), 2);
        Due.dueFault(x, "see cell 20", x.see(meadow, 0, 20), 2);
    }

    /** Promise 10: 'all 0', also where a meadow was; at its bounds it has other sizes. */
    private static void laidAgainIsAllZero(int meadow) {
        HiveLedger x = new HiveLedger();
        x.meadow(meadow, 20, 20);
        x.tend(meadow, 0, 0, 0, 5);
        x.tend(meadow, 19, 19, 0, 5);
        x.cut(meadow, 7);
        Due.due("meadow again", x.meadow(meadow, 20, 20), 0);
        Due.due("the first cell", x.see(meadow, 0, 0), 0);
        Due.due("the last cell", x.see(meadow, 19, 19), 0);
        Due.due("the bed that was lost", x.width(meadow, 7), 20);
        x.meadow(meadow, 1, 2);
        Due.due("beds", x.width(meadow, NONE), 1);
        Due.due("cells", x.width(meadow, 0), 2);
        Due.dueFault(x, "bed 1", x.width(meadow, 1), 2);
        x.meadow(meadow, 0, 0);
        Due.dueFault(x, "bed 0 of none", x.width(meadow, 0), 2);
    }

    /** Promise 10: 'which are no other's' */
    private static void bedsAreNoOthers(int meadow) {
        HiveLedger x = new HiveLedger();
        for (int i = 0; i < 4; i++) {
            x.meadow(i, 2, 2);
        }
        x.tend(meadow, 1, 0, 0, 9);
        for (int i = 0; i < 4; i++) {
            for (int bed = 0; bed < 2; bed++) {
                Due.due("see", x.see(i, bed, 0), i == meadow && bed == 1 ? 9 : 0);
                Due.due("see", x.see(i, bed, 1), 0);
            }
        }
    }

    /** Promise 12: 'A bed of a meadow is lost (also if it is)' */
    private static void cutAlsoIfItIs(int meadow) {
        HiveLedger x = new HiveLedger();
        x.meadow(meadow, 20, 1);
        for (int bed : new int[] {0, 19}) {
            Due.due("cut", x.cut(meadow, bed), 0);
            Due.dueFault(x, "width", x.width(meadow, bed), 1);
            Due.due("cut again", x.cut(meadow, bed), 0);
            Due.dueFault(x, "width", x.width(meadow, bed), 1);
        }
        Due.due("bed 1", x.width(meadow, 1), 1);
        Due.due("bed 18", x.width(meadow, 18), 1);
        Due.due("cut of bed 20", x.cut(meadow, 20), 2);
        Due.due("cut of bed -2", x.cut(meadow, -2), 2);
        Due.due("cut of bed MIN", x.cut(meadow, MIN), 2);
        Due.due("beds", x.width(meadow, NONE), 20);
    }

    /** Promise 12: 'bed NONE: the meadow, likewise' */
    private static void cutMeadowAlsoIfItIs(int meadow) {
        HiveLedger x = new HiveLedger();
        Due.due("cut at first", x.cut(meadow, NONE), 0);
        for (int i = 0; i < 4; i++) {
            x.meadow(i, 2, 2);
        }
        Due.due("cut", x.cut(meadow, NONE), 0);
        Due.due("cut again", x.cut(meadow, NONE), 0);
        Due.due("cut of its bed", x.cut(meadow, 0), 1);
        Due.due("cut of no bed of it", x.cut(meadow, 2), 1);
        for (int i = 0; i < 4; i++) {
            Due.due("beds", x.width(i, NONE), i == meadow ? 0 : 2);
            Due.due("fault()", x.fault(), i == meadow ? 1 : 0);
        }
        x.meadow(meadow, 0, 0);
        Due.due("cut of an empty one", x.cut(meadow, NONE), 0);
        Due.dueFault(x, "which is lost then", x.width(meadow, NONE), 1);
    }

    /** 'a bed may be one with another one, of whatever meadow' */
    private static void joinedBedsAreOne(int meadow, int other) {
        HiveLedger x = new HiveLedger();
        x.meadow(meadow, 3, 2);
        x.meadow(other, 3, 2);
        x.tend(other, 2, 1, 0, 70);
        x.tend(meadow, 0, 1, 0, 30);
        Due.due("join", x.join(meadow, 0, other, 2), 0);
        Due.due("what the second had", x.see(meadow, 0, 1), 70);
        x.tend(meadow, 0, 0, 0, 5);
        Due.due("done in the first", x.see(other, 2, 0), 5);
        x.tend(other, 2, 1, 11, 0);
        Due.due("done in the second", x.see(meadow, 0, 1), 71);
        Due.due("another bed of the first", x.see(meadow, 1, 0), 0);
        Due.due("another bed of the second", x.see(other, 1, 0), 0);
    }

    /** Promise 11: 'A bed of a meadow, be it lost, becomes one with' */
    private static void joinOfLostBeds(int meadow, int other) {
        HiveLedger x = new HiveLedger();
        x.meadow(meadow, 2, 2);
        x.meadow(other, 2, 2);
        x.cut(meadow, 0);
        Due.due("join of a lost bed", x.join(meadow, 0, other, 1), 0);
        Due.due("which is not lost then", x.width(meadow, 0), 2);
        x.tend(meadow, 0, 1, 0, 8);
        Due.due("but one", x.see(other, 1, 1), 8);
    }

    /** Promise 11: 'lost, where that is, without a fault' */
    private static void joinWithLostBeds(int meadow, int other) {
        HiveLedger x = new HiveLedger();
        x.meadow(meadow, 2, 2);
        x.meadow(other, 2, 2);
        x.cut(other, 1);
        Due.due("join with a lost bed", x.join(meadow, 0, other, 1), 0);
        Due.dueFault(x, "which is lost, too", x.width(meadow, 0), 1);
        Due.due("both lost", x.join(meadow, 0, other, 1), 0);
        Due.dueFault(x, "still lost", x.see(meadow, 0, 0), 1);
        x.join(meadow, 0, other, 0);
        if (meadow != other) {
            Due.due("joined with a bed that is there", x.width(meadow, 0), 2);
        }
        Due.dueFault(x, "two lost beds are not one", x.width(other, 1), 1);
    }

    /** Promise 11: 'faults are asked of the first one ahead of the second' */
    private static void joinFaultsOfTheFirstAhead(int meadow, int other) {
        if (meadow == other) {
            return;
        }
        HiveLedger x = new HiveLedger();
        x.meadow(other, 2, 2);
        for (int bed : new int[] {NONE, 2, MIN, MAX}) {
            Due.due("the first lost, no such bed of the second", x.join(meadow, 0, other, bed), 1);
            Due.due("no such bed of the first, the second lost", x.join(other, bed, meadow, 0), 2);
            Due.due("the second lost", x.join(other, 1, meadow, bed), 1);
        }
        x.meadow(meadow, 1, 1);
        Due.due("no such bed of the second", x.join(other, 1, meadow, 1), 2);
        Due.due("no such bed of the first", x.join(meadow, 1, other, 1), 2);
        Due.due("neither", x.join(meadow, 1, other, 2), 2);
        Due.due("both there", x.join(meadow, 0, other, 1), 0);
    }

    private static void joinWithItself() {
        HiveLedger x = new HiveLedger();
        x.meadow(2, 1, 1);
        x.tend(2, 0, 0, 0, 6);
        Due.due("join with itself", x.join(2, 0, 2, 0), 0);
        Due.due("stays", x.see(2, 0, 0), 6);
        x.cut(2, 0);
        Due.due("join of a lost one with itself", x.join(2, 0, 2, 0), 0);
        Due.dueFault(x, "stays lost", x.see(2, 0, 0), 1);
    }

    /** All beds of all meadows are one. */
    private static void joinOfMany() {
        HiveLedger x = new HiveLedger();
        for (int meadow = 0; meadow < 4; meadow++) {
            x.meadow(meadow, 20, 20);
        }
        for (int bed = 0; bed < 80; bed++) {
            Due.due("join", x.join(bed / 20, bed % 20, 3, 19), 0);
        }
        x.tend(0, 0, 19, 0, 77);
        for (int bed = 0; bed < 80; bed++) {
            Due.due("see", x.see(bed / 20, bed % 20, 19), 77);
        }
    }

    private static void joinBringsTheOthersWidth() {
        HiveLedger x = new HiveLedger();
        x.meadow(0, 2, 20);
        x.meadow(1, 2, 0);
        x.join(0, 1, 1, 0);
        Due.dueFault(x, "width of none", x.width(0, 1), 0);
        Due.dueFault(x, "see cell 0 of none", x.see(0, 1, 0), 2);
        Due.due("the bed beside it", x.width(0, 0), 20);
        x.join(1, 1, 0, 0);
        Due.due("width of 20", x.width(1, 1), 20);
        Due.due("tend cell 19", x.tend(1, 1, 19, 12, 0), 0);
        Due.due("see cell 19", x.see(0, 0, 19), -1);
    }

    private static void joinOfTheLastBeds() {
        HiveLedger x = new HiveLedger();
        x.meadow(0, 20, 1);
        x.meadow(1, 20, 1);
        Due.due("join of bed 19", x.join(0, 19, 1, 19), 0);
        Due.due("join of bed 20", x.join(0, 20, 1, 19), 2);
        Due.due("join with bed 20", x.join(0, 19, 1, 20), 2);
        x.tend(1, 19, 0, 11, 0);
        Due.due("see", x.see(0, 19, 0), 1);
        Due.due("see", x.see(0, 18, 0), 0);
    }

    private static void joinedTillOneIsCut() {
        for (int cut = 0; cut < 2; cut++) {
            HiveLedger x = new HiveLedger();
            x.meadow(0, 1, 1);
            x.meadow(1, 1, 1);
            x.join(0, 0, 1, 0);
            x.tend(0, 0, 0, 0, 4);
            x.cut(cut, 0);
            Due.dueFault(x, "the cut one", x.see(cut, 0, 0), 1);
            Due.due("the other one", x.see(1 - cut, 0, 0), 4);
            x.join(cut, 0, 1 - cut, 0);
            Due.due("joined again", x.see(cut, 0, 0), 4);
        }
    }

    private static void joinedTillTheMeadowIsCut() {
        for (int cut = 0; cut < 2; cut++) {
            HiveLedger x = new HiveLedger();
            x.meadow(0, 1, 1);
            x.meadow(1, 1, 1);
            x.join(0, 0, 1, 0);
            x.tend(0, 0, 0, 0, 4);
            x.cut(cut, NONE);
            Due.dueFault(x, "the cut one", x.see(cut, 0, 0), 1);
            Due.due("the other one", x.see(1 - cut, 0, 0), 4);
        }
    }

    private static void joinedTillAnotherMeadowIsMade() {
        for (int made = 0; made < 2; made++) {
            HiveLedger x = new HiveLedger();
            x.meadow(0, 1, 1);
            x.meadow(1, 1, 1);
            x.join(0, 0, 1, 0);
            x.tend(0, 0, 0, 0, 4);
            x.meadow(made, 1, 1);
            Due.due("the new one", x.see(made, 0, 0), 0);
            Due.due("the old one", x.see(1 - made, 0, 0), 4);
            x.tend(made, 0, 0, 0, 9);
            Due.due("the old one alone", x.see(1 - made, 0, 0), 4);
        }
    }

    private static void faultsLeaveJoinedBedsOne() {
        HiveLedger x = new HiveLedger();
        x.meadow(0, 1, 1);
        x.meadow(1, 1, 1);
        x.join(0, 0, 1, 0);
        Due.due("meadow of too many beds", x.meadow(0, 21, 1), 4);
        Due.due("meadow of too few cells", x.meadow(1, 1, -1), 3);
        Due.due("join with no bed", x.join(0, 0, 1, 1), 2);
        Due.due("join with a lost meadow", x.join(1, 0, 2, 0), 1);
        Due.due("cut of no bed", x.cut(0, 1), 2);
        Due.due("tend by 0", x.tend(0, 0, 0, 3, 0), 5);
        x.tend(0, 0, 0, 0, 3);
        Due.due("one still", x.see(1, 0, 0), 3);
    }

    /** Promises 12 and 13 alone say of bed NONE. */
    private static void bedNoneIsTheMeadowForCutAndWidthOnly() {
        HiveLedger x = new HiveLedger();
        x.meadow(1, 2, 3);
        Due.due("width", x.width(1, NONE), 2);
        Due.due("fault()", x.fault(), 0);
        Due.dueFault(x, "see", x.see(1, NONE, 0), 2);
        Due.due("tend", x.tend(1, NONE, 0, 11, 0), 2);
        Due.due("join", x.join(1, NONE, 1, 0), 2);
        Due.due("join", x.join(1, 0, 1, NONE), 2);
        Due.dueFault(x, "width of -2", x.width(1, -2), 2);
        Due.due("cut of -2", x.cut(1, -2), 2);
        Due.due("the meadow is there", x.width(1, NONE), 2);
        Due.due("cut", x.cut(1, NONE), 0);
        Due.dueFault(x, "see", x.see(1, NONE, 0), 1);
    }

    /** Promise 13: 'bed NONE: how many beds the meadow', be they lost */
    private static void widthCountsLostBeds() {
        HiveLedger x = new HiveLedger();
        x.meadow(3, 2, 2);
        x.cut(3, 0);
        x.cut(3, 1);
        Due.due("beds", x.width(3, NONE), 2);
        Due.due("fault()", x.fault(), 0);
        Due.dueFault(x, "width of bed 1", x.width(3, 1), 1);
        Due.dueFault(x, "width of bed 2", x.width(3, 2), 2);
    }

    private static void tendAtTheLastCell() {
        HiveLedger x = new HiveLedger();
        x.meadow(3, 20, 20);
        Due.due("tend", x.tend(3, 19, 19, 1, MIN), 0);
        Due.due("see", x.see(3, 19, 19), MIN);
        Due.due("tend", x.tend(3, 19, 19, 12, MIN), 0);
        Due.due("see", x.see(3, 19, 19), MAX);
        Due.due("the cell ahead", x.see(3, 19, 18), 0);
        Due.due("the bed ahead", x.see(3, 18, 19), 0);
        Due.due("tend cell 20", x.tend(3, 19, 20, 11, 0), 2);
        Due.due("tend bed 20", x.tend(3, 20, 19, 11, 0), 2);
    }
}
