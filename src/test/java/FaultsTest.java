/** Promises 16 and 17: the latest fault, and how many acts had which. */
public final class FaultsTest {
    public static void main(String[] args) {
        everyAct();
        everyFault();
        otherWhats();
        callsThatAreNoActs();
        Due.end();
    }

    /** Each act, without a fault and with one, is one act, and fault() forgets the one ahead of it. */
    private static void everyAct() {
        HiveLedger x = new HiveLedger();
        int acts = 0;
        for (int i = 0; i < 14; i++) {
            act(x, i, true);
            acts++;
            Due.due("fault() behind act " + i, x.fault(), 0);
            Due.due("count(0)", x.count(0), i + 1);
            act(x, i, false);
            acts++;
            Due.due("fault() behind wrong act " + i, x.fault(), 8);
            Due.due("fault() again", x.fault(), 8);
            Due.due("count(8)", x.count(8), i + 1);
            Due.due("count(9)", x.count(9), acts);
        }
    }

    private static void act(HiveLedger x, int which, boolean well) {
        int place = well ? 0 : -1;
        switch (which) {
            case 0: x.lay(place, 0, 2); break;
            case 1: x.share(place, 0); break;
            case 2: x.size(place, 0); break;
            case 3: x.look(place, 0, 0); break;
            case 4: x.put(place, 0, 0, 1); break;
            case 5: x.turn(place, 0, 0, 0, 1); break;
            case 6: x.lose(place, 0); break;
            case 7: x.days(place, 0, 0); break;
            case 8: x.meadow(place, 2, 2); break;
            case 9: x.join(place, 0, 0, 1); break;
            case 10: x.width(place, 0); break;
            case 11: x.see(place, 0, 0); break;
            case 12: x.tend(place, 0, 0, 0, 1); break;
            default: x.cut(place, 0); break;
        }
    }

    private static void everyFault() {
        HiveLedger x = new HiveLedger();
        int[] want = new int[10];
        x.lay(0, Due.HONEY, 1);
        x.put(0, Due.HONEY, 0, Due.MAX);
        for (int i = 0; i < 3; i++) {
            x.turn(0, Due.HONEY, 0, 2, Due.MAX);
        }
        want[0] = 5;
        want[9] = 5;
        for (int fault = 1; fault <= 8; fault++) {
            for (int times = 0; times < fault; times++) {
                make(x, fault);
                want[fault]++;
                want[9]++;
                Due.due("fault()", x.fault(), fault);
            }
        }
        for (int what = 0; what <= 9; what++) {
            Due.due("count(" + what + ")", x.count(what), want[what]);
        }
        x.lose(1, 1);
        Due.due("fault() behind a good act", x.fault(), 0);
        Due.due("count(0)", x.count(0), 6);
    }

    private static void make(HiveLedger x, int fault) {
        switch (fault) {
            case 1: x.size(1, 1); break;
            case 2: x.look(0, Due.HONEY, 1); break;
            case 3: x.meadow(0, 1, -1); break;
            case 4: x.lay(1, 1, 25); break;
            case 5: x.turn(0, Due.HONEY, 0, 4, 0); break;
            case 6: x.turn(0, Due.HONEY, 0, 2, Due.MAX); break;
            case 7: x.turn(1, Due.SWARMS, 0, 0, 1); break;
            default: x.see(4, 0, 0); break;
        }
    }

    private static void otherWhats() {
        HiveLedger x = new HiveLedger();
        for (int what : new int[] {-1, 10, 11, -9, 256, Due.MIN, Due.MAX}) {
            Due.due("count(" + what + ")", x.count(what), HiveLedger.NONE);
        }
        Due.due("fault() behind them", x.fault(), 0);
        Due.due("count(9)", x.count(9), 0);
    }

    private static void callsThatAreNoActs() {
        HiveLedger x = new HiveLedger();
        x.size(0, 0);
        for (int i = 0; i < 5; i++) {
            Due.due("fault()", x.fault(), 1);
            Due.due("count(1)", x.count(1), 1);
            Due.due("count(0)", x.count(0), 0);
            Due.due("count(9)", x.count(9), 1);
            x.count(99);
        }
        HiveLedger y = new HiveLedger();
        Due.due("another object's acts", y.count(9), 0);
        Due.due("another object's fault", y.fault(), 0);
    }
}
