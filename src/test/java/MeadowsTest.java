/** Promises 10 to 15: meadows, their beds and their blossoms. */
public final class MeadowsTest {
    private static final int NONE = HiveLedger.NONE;
    private static final int[] NO_MEADOWS = {-1, 4, Due.MIN, Due.MAX};

    public static void main(String[] args) {
        for (int meadow = 0; meadow < 4; meadow++) {
            laid(meadow);
            lostMeadow(meadow);
        }
        sizes();
        bedsAreTheirOwn();
        joined();
        joinedStays();
        joinedWithinOne();
        joinOfLost();
        joinFaults();
        cuts();
        wrongBedsAndCells();
        wrongMeadows();
        operations();
        orderOfFaults();
        Due.end();
    }

    private static void laid(int meadow) {
        HiveLedger x = new HiveLedger();
        Due.due("meadow(" + meadow + ", 20, 20)", x.meadow(meadow, 20, 20), 0);
        Due.due("beds", x.width(meadow, NONE), 20);
        for (int bed = 0; bed < 20; bed++) {
            Due.due("width of bed " + bed, x.width(meadow, bed), 20);
            Due.due("see", x.see(meadow, bed, 19), 0);
            Due.due("tend", x.tend(meadow, bed, 19, 0, bed + 1), 0);
        }
        for (int bed = 0; bed < 20; bed++) {
            Due.due("see bed " + bed, x.see(meadow, bed, 19), bed + 1);
            Due.due("see bed " + bed, x.see(meadow, bed, 0), 0);
        }
        Due.due("meadow again", x.meadow(meadow, 20, 20), 0);
        for (int bed = 0; bed < 20; bed++) {
            Due.due("all is 0 again", x.see(meadow, bed, 19), 0);
        }
        for (int other = 0; other < 4; other++) {
            if (other != meadow) {
                Due.dueFault(x, "another meadow", x.width(other, NONE), 1);
            }
        }
    }

    private static void lostMeadow(int meadow) {
        HiveLedger x = new HiveLedger();
        Due.due("cut of what is lost", x.cut(meadow, NONE), 0);
        x.meadow(meadow, 2, 3);
        Due.due("cut of a meadow", x.cut(meadow, NONE), 0);
        Due.dueFault(x, "width of a lost meadow", x.width(meadow, NONE), 1);
        Due.dueFault(x, "width of its bed", x.width(meadow, 0), 1);
        Due.dueFault(x, "width of no bed", x.width(meadow, 20), 1);
        Due.dueFault(x, "see", x.see(meadow, 0, 0), 1);
        Due.due("tend", x.tend(meadow, 0, 0, 11, 0), 1);
        Due.due("cut of its bed", x.cut(meadow, 0), 1);
        Due.due("cut of no bed", x.cut(meadow, -2), 1);
        Due.due("cut again", x.cut(meadow, NONE), 0);
        Due.due("meadow", x.meadow(meadow, 1, 1), 0);
        Due.due("see", x.see(meadow, 0, 0), 0);
        Due.due("fault()", x.fault(), 0);
    }

    private static void sizes() {
        HiveLedger x = new HiveLedger();
        x.meadow(1, 3, 4);
        x.tend(1, 2, 3, 0, 9);
        int[][] great = {{21, 0}, {0, 21}, {21, 21}, {21, -1}, {-1, 21}, {Due.MAX, Due.MIN}, {Due.MIN, Due.MAX}};
        for (int[] size : great) {
            Due.due("meadow(1, " + size[0] + ", " + size[1] + ")", x.meadow(1, size[0], size[1]), 4);
        }
        int[][] small = {{-1, 0}, {0, -1}, {-1, -1}, {20, -1}, {-1, 20}, {Due.MIN, 1}, {1, Due.MIN}};
        for (int[] size : small) {
            Due.due("meadow(1, " + size[0] + ", " + size[1] + ")", x.meadow(1, size[0], size[1]), 3);
        }
        Due.due("beds behind faults", x.width(1, NONE), 3);
        Due.due("cells behind faults", x.width(1, 2), 4);
        Due.due("see behind faults", x.see(1, 2, 3), 9);
        Due.due("no beds", x.meadow(1, 0, 20), 0);
        Due.due("width of none", x.width(1, NONE), 0);
        Due.due("fault()", x.fault(), 0);
        Due.dueFault(x, "width of bed 0", x.width(1, 0), 2);
        Due.due("no cells", x.meadow(1, 20, 0), 0);
        Due.dueFault(x, "width of bed 19", x.width(1, 19), 0);
        Due.dueFault(x, "see", x.see(1, 19, 0), 2);
    }

    private static void bedsAreTheirOwn() {
        HiveLedger x = new HiveLedger();
        for (int meadow = 0; meadow < 4; meadow++) {
            x.meadow(meadow, 3, 2);
        }
        x.tend(2, 1, 1, 0, 5);
        for (int meadow = 0; meadow < 4; meadow++) {
            for (int bed = 0; bed < 3; bed++) {
                Due.due("see", x.see(meadow, bed, 1), meadow == 2 && bed == 1 ? 5 : 0);
                Due.due("see", x.see(meadow, bed, 0), 0);
            }
        }
    }

    private static void joined() {
        HiveLedger x = new HiveLedger();
        x.meadow(0, 3, 2);
        x.meadow(3, 2, 7);
        x.tend(3, 1, 6, 0, 60);
        x.tend(0, 2, 0, 0, 8);
        Due.due("join(0, 2, 3, 1)", x.join(0, 2, 3, 1), 0);
        Due.due("width", x.width(0, 2), 7);
        Due.due("width of another bed", x.width(0, 1), 2);
        Due.due("see", x.see(0, 2, 6), 60);
        Due.due("see what was 8", x.see(0, 2, 0), 0);
        x.tend(0, 2, 1, 0, 11);
        Due.due("done in one", x.see(3, 1, 1), 11);
        x.tend(3, 1, 1, 11, 0);
        Due.due("done in the other", x.see(0, 2, 1), 12);
        Due.due("a third one", x.join(0, 0, 0, 2), 0);
        x.tend(0, 0, 5, 0, 3);
        Due.due("all three are one", x.see(3, 1, 5), 3);
        Due.due("one goes another way", x.join(0, 2, 0, 1), 0);
        Due.due("its width", x.width(0, 2), 2);
        x.tend(0, 2, 0, 0, 44);
        Due.due("and is one with that", x.see(0, 1, 0), 44);
        Due.due("the others stay", x.see(0, 0, 0), 0);
        x.tend(0, 0, 5, 0, 1);
        Due.due("the others stay one", x.see(3, 1, 5), 4);
    }

    private static void joinedStays() {
        HiveLedger x = new HiveLedger();
        x.meadow(0, 1, 2);
        x.meadow(1, 1, 2);
        x.join(0, 0, 1, 0);
        x.tend(1, 0, 1, 0, 7);
        x.cut(1, 0);
        Due.due("behind the bed's cut", x.see(0, 0, 1), 7);
        Due.dueFault(x, "the cut one", x.see(1, 0, 1), 1);
        x.join(1, 0, 0, 0);
        Due.due("joined again", x.see(1, 0, 1), 7);
        x.cut(1, NONE);
        Due.due("behind the meadow's cut", x.see(0, 0, 1), 7);
        x.meadow(1, 1, 2);
        Due.due("a new meadow", x.see(1, 0, 1), 0);
        x.tend(1, 0, 1, 0, 5);
        Due.due("is no other's", x.see(0, 0, 1), 7);
        x.join(1, 0, 0, 0);
        x.meadow(0, 2, 2);
        Due.due("behind another meadow in its place", x.see(1, 0, 1), 7);
        Due.due("which has its own", x.see(0, 0, 1), 0);
    }

    private static void joinedWithinOne() {
        HiveLedger x = new HiveLedger();
        x.meadow(2, 3, 2);
        x.tend(2, 0, 0, 0, 6);
        Due.due("join with itself", x.join(2, 0, 2, 0), 0);
        Due.due("see", x.see(2, 0, 0), 6);
        Due.due("join within one", x.join(2, 1, 2, 0), 0);
        x.tend(2, 1, 1, 12, 0);
        Due.due("see", x.see(2, 0, 1), -1);
        Due.due("see the third", x.see(2, 2, 1), 0);
    }

    private static void joinOfLost() {
        HiveLedger x = new HiveLedger();
        x.meadow(0, 2, 2);
        x.meadow(1, 2, 3);
        x.cut(0, 0);
        Due.due("a lost bed joins", x.join(0, 0, 1, 1), 0);
        Due.due("its width", x.width(0, 0), 3);
        x.cut(1, 0);
        Due.due("a bed joins a lost one", x.join(0, 1, 1, 0), 0);
        Due.dueFault(x, "it is lost", x.width(0, 1), 1);
        Due.due("a lost bed joins a lost one", x.join(0, 1, 1, 0), 0);
        Due.due("two lost ones are not one", x.join(0, 1, 1, 1), 0);
        Due.dueFault(x, "the other is lost still", x.width(1, 0), 1);
        Due.due("beds are counted, be they lost", x.width(1, NONE), 2);
    }

    private static void joinFaults() {
        HiveLedger x = new HiveLedger();
        x.meadow(0, 2, 2);
        x.meadow(1, 3, 2);
        for (int no : NO_MEADOWS) {
            Due.due("no meadow", x.join(no, 0, 0, 0), 8);
            Due.due("no other", x.join(0, 0, no, 0), 8);
            Due.due("neither", x.join(no, 9, no, 9), 8);
            Due.due("8 of the second is ahead of 1 of the first", x.join(2, 0, no, 0), 8);
            Due.due("8 of the second is ahead of 2 of the first", x.join(0, 2, no, 0), 8);
        }
        Due.due("the first lost", x.join(2, 0, 1, 0), 1);
        Due.due("the first lost, no such bed of the second", x.join(2, 0, 1, 3), 1);
        Due.due("the second lost", x.join(0, 0, 2, 0), 1);
        Due.due("both lost", x.join(3, 9, 2, 9), 1);
        for (int bed : new int[] {NONE, 2, 20, Due.MIN, Due.MAX}) {
            Due.due("no such bed of the first", x.join(0, bed, 1, 0), 2);
            Due.due("no such bed of the first, the second lost", x.join(0, bed, 2, 0), 2);
        }
        for (int from : new int[] {NONE, 3, 20, Due.MIN, Due.MAX}) {
            Due.due("no such bed of the second", x.join(0, 1, 1, from), 2);
            Due.due("no such bed of the second, the first lost", x.join(2, 1, 1, from), 1);
        }
        x.tend(0, 1, 0, 0, 5);
        Due.due("nothing was joined", x.see(1, 0, 0), 0);
        Due.due("nothing was lost", x.see(0, 1, 0), 5);
    }

    private static void cuts() {
        HiveLedger x = new HiveLedger();
        x.meadow(1, 3, 2);
        x.tend(1, 0, 0, 0, 4);
        Due.due("cut", x.cut(1, 1), 0);
        Due.dueFault(x, "width", x.width(1, 1), 1);
        Due.dueFault(x, "see", x.see(1, 1, 0), 1);
        Due.dueFault(x, "see no cell", x.see(1, 1, 2), 1);
        Due.due("tend", x.tend(1, 1, 0, 11, 0), 1);
        Due.due("tend no cell", x.tend(1, 1, -1, 11, 0), 1);
        Due.due("cut again", x.cut(1, 1), 0);
        Due.due("another bed", x.see(1, 0, 0), 4);
        Due.due("beds", x.width(1, NONE), 3);
        for (int bed : new int[] {-2, 3, 20, Due.MIN, Due.MAX}) {
            Due.due("cut of no bed " + bed, x.cut(1, bed), 2);
        }
        Due.due("beds", x.width(1, NONE), 3);
        Due.due("width", x.width(1, 2), 2);
    }

    private static void wrongBedsAndCells() {
        HiveLedger x = new HiveLedger();
        x.meadow(1, 3, 2);
        for (int bed : new int[] {-2, 3, 20, Due.MIN, Due.MAX}) {
            Due.dueFault(x, "width of bed " + bed, x.width(1, bed), 2);
        }
        for (int bed : new int[] {NONE, -2, 3, 20, Due.MIN, Due.MAX}) {
            Due.dueFault(x, "see bed " + bed, x.see(1, bed, 0), 2);
            Due.due("tend bed " + bed, x.tend(1, bed, 0, 11, 1), 2);
        }
        for (int cell : new int[] {-1, 2, 20, Due.MIN, Due.MAX}) {
            Due.dueFault(x, "see cell " + cell, x.see(1, 2, cell), 2);
            Due.due("tend cell " + cell, x.tend(1, 2, cell, 11, 1), 2);
        }
        for (int bed = 0; bed < 3; bed++) {
            Due.due("see", x.see(1, bed, 0) | x.see(1, bed, 1), 0);
        }
    }

    private static void wrongMeadows() {
        HiveLedger x = new HiveLedger();
        for (int meadow = 0; meadow < 4; meadow++) {
            x.meadow(meadow, 2, 2);
        }
        for (int no : NO_MEADOWS) {
            Due.due("meadow", x.meadow(no, 1, 1), 8);
            Due.due("meadow of too many", x.meadow(no, 21, -1), 8);
            Due.due("cut", x.cut(no, 0), 8);
            Due.due("cut of all", x.cut(no, NONE), 8);
            Due.dueFault(x, "width", x.width(no, 0), 8);
            Due.dueFault(x, "width of all", x.width(no, NONE), 8);
            Due.dueFault(x, "see", x.see(no, 0, 0), 8);
            Due.dueFault(x, "see no bed", x.see(no, 9, 9), 8);
            Due.due("tend", x.tend(no, 0, 0, 0, 1), 8);
            Due.due("tend by no operation", x.tend(no, 9, 9, 13, 1), 8);
        }
        for (int meadow = 0; meadow < 4; meadow++) {
            Due.due("beds", x.width(meadow, NONE), 2);
        }
    }

    private static void operations() {
        int[] numbers = {0, 1, -1, 2, 7, -7, 31, 32, 33, 255, 65535, 65536, 1000003, -1000003, Due.MIN, Due.MAX};
        for (int how = 0; how <= 12; how++) {
            for (int v : numbers) {
                boolean zero = v == 0 && (how == 3 || how == 4);
                HiveLedger x = new HiveLedger();
                x.meadow(0, 1, 3);
                for (int first : numbers) {
                    String call = first + ", how " + how + ", v " + v;
                    x.tend(0, 0, 1, 8, 0);
                    x.tend(0, 0, 1, 9, first);
                    Due.due("see " + first, x.see(0, 0, 1), first);
                    Due.due("tend of " + call, x.tend(0, 0, 1, how, v), zero ? 5 : 0);
                    Due.due(call, x.see(0, 0, 1), zero ? first : TurnTest.whole(first, how, v));
                }
                Due.due("the cell ahead", x.see(0, 0, 0), 0);
                Due.due("the cell behind", x.see(0, 0, 2), 0);
            }
        }
    }

    private static void orderOfFaults() {
        HiveLedger x = new HiveLedger();
        x.meadow(0, 3, 2);
        x.cut(0, 1);
        for (int how : new int[] {-1, 13, Due.MIN, Due.MAX}) {
            Due.due("no operation", x.tend(0, 0, 0, how, 1), 8);
            Due.due("no operation, lost meadow", x.tend(1, 0, 0, how, 1), 8);
            Due.due("no operation, no bed", x.tend(0, 3, 0, how, 1), 8);
            Due.due("no operation, lost bed", x.tend(0, 1, 0, how, 1), 8);
            Due.due("no operation, no cell", x.tend(0, 0, 2, how, 1), 8);
        }
        for (int how = 3; how <= 4; how++) {
            Due.due("lost meadow, by 0", x.tend(1, 3, 2, how, 0), 1);
            Due.due("no bed, by 0", x.tend(0, 3, 2, how, 0), 2);
            Due.due("lost bed, by 0", x.tend(0, 1, 2, how, 0), 1);
            Due.due("no cell, by 0", x.tend(0, 0, 2, how, 0), 2);
            Due.due("by 0", x.tend(0, 0, 1, how, 0), 5);
        }
    }
}
