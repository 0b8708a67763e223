import java.util.List;

/** The boundary cases of promises 15 to 20: what is told. */
public final class TellEdgeTest {
    private static final int NONE = Run.NONE, BAD = Run.BAD;
    private static final int[] NO_BERTHS_OF_2 = {Run.LOW, -1, 2, 8, Run.HIGH};

    public static void main(String[] args) {
        Sentences.testAll(TellEdgeTest.class);
    }

    // ---- promise 15: state

    @Sentence(promise = 15, words = "what 0 its GATE (NONE)")
    static void stateGate(Run x) {
        x.build(2, 5, 5);
        x.due(x.state(1, 0), 1);
        x.hinge(1, 0);
        x.due(x.state(1, 0), 0);
        x.hinge(1, NONE);
        x.due(x.state(1, 0), NONE);
        x.due(x.state(1, 1), 1);
    }

    @Sentence(promise = 15, words = "1 its RAMP (NONE)")
    static void stateRamp(Run x) {
        x.build(2, 5, 5);
        x.due(x.state(1, 1), 1);
        x.lay(1, 0);
        x.due(x.state(1, 1), 0);
        x.lay(1, NONE);
        x.due(x.state(1, 1), NONE);
        x.due(x.state(1, 0), 1);
    }

    @Sentence(promise = 15, words = "2 how many are in its LANE, 3 how many aboard, 4 the LOAD, 5 the ROOM.")
    static void stateOfAnEmptyAndOfABusyBerth(Run x) {
        x.build(2, 700, 300);
        for (int b = 0; b < 2; b++) {
            x.due(x.state(b, 2), 0);
            x.due(x.state(b, 3), 0);
            x.due(x.state(b, 4), 0);
            x.due(x.state(b, 5), 700);
        }
        x.arriveAll(0, 20, 30, 40, 50, 60);
        x.board(0, 2);
        x.due(x.state(0, 2), 3);
        x.due(x.state(0, 3), 2);
        x.due(x.state(0, 4), 50);
        x.due(x.state(0, 5), 700);
        x.due(x.state(1, 2), 0);
        x.due(x.state(1, 3), 0);
        x.due(x.state(1, 4), 0);
    }

    @Sentence(promise = 15, words = "BAD: b")
    static void stateBadBerth(Run x) {
        x.buildBusy();
        for (int b : NO_BERTHS_OF_2) {
            for (int what = 0; what <= 5; what++) {
                x.due(x.state(b, what), BAD);
            }
        }
    }

    @Sentence(promise = 15, words = "BAD: .. what.")
    static void stateBadWhat(Run x) {
        x.buildBusy();
        for (int what : new int[] {Run.LOW, -1, 6, Run.HIGH}) {
            x.due(x.state(0, what), BAD);
            x.due(x.state(1, what), BAD);
            x.due(x.state(2, what), BAD);
        }
    }

    // ---- promise 16: waiting

    @Sentence(promise = 16, words = "The WEIGHT of vehicle i of BERTH b's LANE, from 0 on.")
    static void waitingFrom0On(Run x) {
        x.build(2, 100, 50);
        x.arriveAll(0, 0, 2000, 5);
        x.arriveAll(1, 6);
        x.due(x.waiting(0, 0), 0);
        x.due(x.waiting(0, 1), 2000);
        x.due(x.waiting(0, 2), 5);
        x.due(x.waiting(1, 0), 6);
    }

    @Sentence(promise = 16, words = "NONE: none such.")
    static void waitingNoneSuch(Run x) {
        x.buildBusy();
        x.dueLane(0, 30, 400);
        for (int i : new int[] {Run.LOW, -2, -1, 2, 3, 29, 30, 31, Run.HIGH}) {
            x.due(x.waiting(0, i), NONE);
        }
    }

    @Sentence(promise = 16, words = "NONE: none such.", here = "an empty LANE, and a full one")
    static void waitingNoneSuchInEmptyAndFullLane(Run x) {
        x.build(2, 100, 50);
        x.arriveMany(0, 30, 7);
        x.due(x.waiting(0, 29), 7);
        x.due(x.waiting(0, 30), NONE);
        x.due(x.waiting(0, -1), NONE);
        x.due(x.waiting(1, 0), NONE);
        x.due(x.waiting(1, 29), NONE);
    }

    @Sentence(promise = 16, words = "NONE: none such.", here = "those that left")
    static void waitingNoMoreWhenGone(Run x) {
        x.build(2, 100, 50);
        x.arriveAll(0, 5, 6, 7, 0);
        x.board(0, 1);
        x.dueLane(0, 6, 7, 0);
        x.shift(0, 1, 2);
        x.dueLane(0, 0);
        x.board(0, 1);
        x.dueLane(0);
    }

    @Sentence(promise = 16, words = "BAD: b.")
    static void waitingBadBerth(Run x) {
        x.buildBusy();
        for (int b : NO_BERTHS_OF_2) {
            x.due(x.waiting(b, 0), BAD);
            x.due(x.waiting(b, -1), BAD);
            x.due(x.waiting(b, 30), BAD);
        }
    }

    // ---- promise 17: aboard

    @Sentence(promise = 17, words = "from 0 on, in the order in which they came.")
    static void aboardInOrder(Run x) {
        x.build(2, 100, 50);
        x.arriveAll(0, 9, 51, 3, 7);
        x.board(0, 1);
        x.board(0, 30);
        x.due(x.aboard(0, 0), 9);
        x.due(x.aboard(0, 1), 3);
        x.due(x.aboard(0, 2), 7);
        x.due(x.aboard(1, 0), NONE);
    }

    @Sentence(promise = 17, words = "NONE: none such.")
    static void aboardNoneSuch(Run x) {
        x.build(2, 100, 50);
        x.arriveAll(0, 5, 6);
        x.board(0, 2);
        for (int i : new int[] {Run.LOW, -2, -1, 2, 3, 39, 40, 41, Run.HIGH}) {
            x.due(x.aboard(0, i), NONE);
        }
        x.due(x.aboard(1, 0), NONE);
    }

    @Sentence(promise = 17, words = "NONE: none such.", here = "a full FERRY")
    static void aboardNoneSuchInAFullFerry(Run x) {
        x.build(1, 100, 50);
        for (int i = 0; i < 40; i++) {
            x.arrive(0, 1);
            x.board(0, 1);
        }
        x.due(x.aboard(0, 39), 1);
        x.due(x.aboard(0, 40), NONE);
        x.due(x.aboard(0, -1), NONE);
    }

    @Sentence(promise = 17, words = "NONE: none such.", here = "those that left")
    static void aboardNoMoreWhenGone(Run x) {
        x.build(2, 100, 50);
        x.arriveAll(0, 5, 6, 7);
        x.board(0, 3);
        x.land(0, 1);
        x.dueAboard(0, 5, 6);
        x.swap(0, 1);
        x.dueAboard(0);
        x.dueAboard(1, 5, 6);
        x.land(1, 2);
        x.dueAboard(1);
    }

    @Sentence(promise = 17, words = "BAD: b.")
    static void aboardBadBerth(Run x) {
        x.buildBusy();
        for (int b : NO_BERTHS_OF_2) {
            x.due(x.aboard(b, 0), BAD);
            x.due(x.aboard(b, -1), BAD);
            x.due(x.aboard(b, 40), BAD);
        }
    }

    // ---- promise 18: ofGate

    @Sentence(promise = 18, words = "what 0 how often it was TAKEN, 1 how many PASSED, 2 1 if it is SHUT, else 0.")
    static void ofGateOfEachKind(Run x) {
        x.build(2, 100, 50);
        for (int what = 0; what <= 2; what++) {
            x.due(x.ofGate(0, what), 0);
        }
        x.arriveAll(0, 5, 6, 7);
        x.board(0, 3);
        x.shut(0, true);
        x.due(x.ofGate(0, 0), 1);
        x.due(x.ofGate(0, 1), 3);
        x.due(x.ofGate(0, 2), 1);
        for (int what = 0; what <= 2; what++) {
            x.due(x.ofGate(1, what), 0);
        }
    }

    @Sentence(promise = 18, words = "BAD: g")
    static void ofGateBadGate(Run x) {
        x.buildBusy();
        x.ramp(5);
        x.berth(5);
        for (int g : new int[] {Run.LOW, -1, 2, 16, Run.HIGH}) {
            for (int what = 0; what <= 2; what++) {
                x.due(x.ofGate(g, what), BAD);
            }
        }
        x.gate();
        x.due(x.ofGate(2, 0), 0);
    }

    @Sentence(promise = 18, words = "BAD: .. what.")
    static void ofGateBadWhat(Run x) {
        x.buildBusy();
        for (int what : new int[] {Run.LOW, -1, 3, Run.HIGH}) {
            x.due(x.ofGate(0, what), BAD);
            x.due(x.ofGate(1, what), BAD);
            x.due(x.ofGate(2, what), BAD);
        }
    }

    // ---- promise 19: ofRamp

    @Sentence(promise = 19, words = "what 0 how often it was TAKEN, 1 its WEAR, 2 its LIMIT.")
    static void ofRampOfEachKind(Run x) {
        x.build(2, 100, 50);
        x.due(x.ofRamp(0, 0), 0);
        x.due(x.ofRamp(0, 1), 0);
        x.due(x.ofRamp(0, 2), 50);
        x.arriveAll(0, 5, 6, 7);
        x.board(0, 3);
        x.due(x.ofRamp(0, 0), 3);
        x.due(x.ofRamp(0, 1), 18);
        x.due(x.ofRamp(0, 2), 50);
        x.due(x.ofRamp(1, 0), 0);
        x.due(x.ofRamp(1, 1), 0);
    }

    @Sentence(promise = 19, words = "BAD: r")
    static void ofRampBadRamp(Run x) {
        x.buildBusy();
        x.gate();
        x.berth(5);
        for (int r : new int[] {Run.LOW, -1, 2, 16, Run.HIGH}) {
            for (int what = 0; what <= 2; what++) {
                x.due(x.ofRamp(r, what), BAD);
            }
        }
        x.ramp(5);
        x.due(x.ofRamp(2, 0), 0);
    }

    @Sentence(promise = 19, words = "BAD: .. what.")
    static void ofRampBadWhat(Run x) {
        x.buildBusy();
        for (int what : new int[] {Run.LOW, -1, 3, Run.HIGH}) {
            x.due(x.ofRamp(0, what), BAD);
            x.due(x.ofRamp(1, what), BAD);
            x.due(x.ofRamp(2, what), BAD);
        }
    }

    // ---- promise 20: count

    @Sentence(promise = 20, words = "What 0: how many GATES, 1 RAMPS, 2 BERTHS there are")
    static void countOfWhatThereIs(Run x) {
        for (int i = 0; i < 17; i++) {
            x.due(x.count(0), Math.min(i, 16));
            x.gate();
        }
        for (int i = 0; i < 17; i++) {
            x.due(x.count(1), Math.min(i, 16));
            x.ramp(5);
        }
        for (int i = 0; i < 9; i++) {
            x.due(x.count(2), Math.min(i, 8));
            x.berth(5);
        }
        x.due(x.count(0), 16);
        x.due(x.count(1), 16);
        x.due(x.count(2), 8);
    }

    @Sentence(promise = 20, words = "3 how many vehicles arrived, 4 are GONE, 5 were TOWED, 6 ALARMS.")
    static void countOfWhatWasDone(Run x) {
        x.build(1, 1000, 100);
        x.arriveAll(0, 0, 51, 50, 0, 20, 10);
        x.board(0, 30);
        x.board(0, 30);
        x.board(0, 30);
        x.land(0, 3);
        x.arrive(0, 5);
        x.tend(0);
        x.tend(0);
        x.due(x.count(3), 7);
        x.due(x.count(4), 3);
        x.due(x.count(5), 2);
        x.due(x.count(6), 3);
    }

    @Sentence(promise = 20, words = "3 how many vehicles arrived",
        here = "not those that were refused, shifted, or sent to the end")
    static void countOfArrivedIsOfArriveAlone(Run x) {
        x.build(2, 1000, 100);
        x.arriveMany(0, 30, 101);
        x.arrive(0, 5);
        x.arrive(1, 2001);
        x.arrive(2, 5);
        x.due(x.count(3), 30);
        x.board(0, 30);
        x.shift(0, 1, 10);
        x.due(x.count(3), 30);
    }

    @Sentence(promise = 20, words = "BAD: what.")
    static void countBadWhat(Run x) {
        x.buildBusy();
        for (int what : new int[] {Run.LOW, -1, 7, Run.HIGH}) {
            x.due(x.count(what), BAD);
        }
    }

    // ---- all of them

    @Sentence(words = "---- what is told.")
    static void tellingChangesNothing(Run x) {
        x.buildBusy();
        List<Integer> before = x.all();
        x.state(0, 6);
        x.waiting(0, 30);
        x.aboard(0, 40);
        x.ofGate(0, 3);
        x.ofRamp(0, 3);
        x.count(7);
        x.dueUnchanged(before);
        x.dueUnchanged(before);
        x.dueGate(0, 3, 3);
        x.dueRamp(0, 4, 50);
        x.dueCounts(1, 1, 1);
    }
}
