import java.util.List;

/** The boundary cases that the document's "What it is" and "Terms" name. */
public final class TermsEdgeTest {
    private static final int NONE = Run.NONE, BAD = Run.BAD, FULL = Run.FULL, MISSING = Run.MISSING,
        DENIED = Run.DENIED, STALLED = Run.STALLED;

    public static void main(String[] args) {
        Sentences.testAll(TermsEdgeTest.class);
    }

    // ---- how many, and how much

    @Sentence(words = "GATES (16 at most) are numbered from 0 on")
    static void gates16AtMost(Run x) {
        for (int g = 0; g < 16; g++) {
            x.due(x.gate(), g);
        }
        x.due(x.gate(), FULL);
        x.due(x.count(0), 16);
    }

    @Sentence(words = "one is open (at first) or SHUT")
    static void gateIsOpenAtFirst(Run x) {
        x.gate();
        x.due(x.ofGate(0, 2), 0);
        x.shut(0, true);
        x.due(x.ofGate(0, 2), 1);
        x.gate();
        x.due(x.ofGate(1, 2), 0);
    }

    @Sentence(words = "RAMPS (16 at most) are numbered likewise")
    static void ramps16AtMost(Run x) {
        for (int r = 0; r < 16; r++) {
            x.due(x.ramp(5), r);
        }
        x.due(x.ramp(5), FULL);
        x.due(x.count(1), 16);
    }

    @Sentence(words = "one has a LIMIT (1 .. 1000)")
    static void limitIs1To1000(Run x) {
        x.due(x.ramp(0), BAD);
        x.due(x.ramp(1), 0);
        x.due(x.ramp(1000), 1);
        x.due(x.ramp(1001), BAD);
        x.due(x.ofRamp(0, 2), 1);
        x.due(x.ofRamp(1, 2), 1000);
    }

    @Sentence(words = "and a WEAR (0 at first)")
    static void wearIs0AtFirst(Run x) {
        x.build(1, 100, 50);
        x.due(x.ofRamp(0, 1), 0);
        x.arrive(0, 7);
        x.board(0, 1);
        x.due(x.ofRamp(0, 1), 7);
        x.ramp(50);
        x.due(x.ofRamp(1, 1), 0);
    }

    @Sentence(words = "A vehicle is a WEIGHT, 0 .. 2000.")
    static void weightIs0To2000(Run x) {
        x.berth(0);
        x.due(x.arrive(0, -1), BAD);
        x.due(x.arrive(0, 0), 1);
        x.due(x.arrive(0, 2000), 2);
        x.due(x.arrive(0, 2001), BAD);
        x.dueLane(0, 0, 2000);
    }

    @Sentence(words = "BERTHS (8 at most) are numbered likewise")
    static void berths8AtMost(Run x) {
        for (int b = 0; b < 8; b++) {
            x.due(x.berth(5), b);
        }
        x.due(x.berth(5), FULL);
        x.due(x.count(2), 8);
    }

    @Sentence(words = "one has a GATE or none, a RAMP or none (none of both at first")
    static void berthHasNeitherAtFirst(Run x) {
        x.build(1, 100, 50);
        x.berth(100);
        x.due(x.state(0, 0), 0);
        x.due(x.state(0, 1), 0);
        x.due(x.state(1, 0), NONE);
        x.due(x.state(1, 1), NONE);
    }

    @Sentence(words = "one may be at several BERTHS")
    static void oneGateAndRampAtAllBerths(Run x) {
        x.gate();
        x.ramp(50);
        for (int b = 0; b < 8; b++) {
            x.berth(100);
            x.due(x.hinge(b, 0), NONE);
            x.due(x.lay(b, 0), NONE);
            x.arrive(b, 2);
        }
        for (int b = 0; b < 8; b++) {
            x.due(x.state(b, 0), 0);
            x.due(x.state(b, 1), 0);
            x.due(x.board(b, 1), 1);
        }
        x.dueGate(0, 8, 8);
        x.dueRamp(0, 8, 16);
        x.shut(0, true);
        for (int b = 0; b < 8; b++) {
            x.due(x.board(b, 1), DENIED);
        }
    }

    @Sentence(words = "a LANE with at most 30 vehicles in a row")
    static void lane30AtMost(Run x) {
        x.berth(0);
        x.berth(0);
        for (int b = 0; b < 2; b++) {
            for (int i = 1; i <= 30; i++) {
                x.due(x.arrive(b, 100 * b + i), i);
            }
            x.due(x.arrive(b, 5), FULL);
        }
        for (int b = 0; b < 2; b++) {
            x.due(x.state(b, 2), 30);
            for (int i = 1; i <= 30; i++) {
                x.due(x.waiting(b, i - 1), 100 * b + i);
            }
            x.due(x.waiting(b, 30), NONE);
        }
    }

    @Sentence(words = "a FERRY with a ROOM (0 .. 10000)")
    static void roomIs0To10000(Run x) {
        x.due(x.berth(-1), BAD);
        x.due(x.berth(0), 0);
        x.due(x.berth(10000), 1);
        x.due(x.berth(10001), BAD);
        x.due(x.state(0, 5), 0);
        x.due(x.state(1, 5), 10000);
    }

    @Sentence(words = "and at most 40 vehicles aboard in the order in which they came")
    static void aboard40AtMostInOrder(Run x) {
        x.build(1, 10000, 100);
        for (int i = 1; i <= 42; i++) {
            x.arrive(0, i);
            x.due(x.board(0, 1), i <= 40 ? 1 : 0);
        }
        x.due(x.state(0, 3), 40);
        for (int i = 1; i <= 40; i++) {
            x.due(x.aboard(0, i - 1), i);
        }
        x.due(x.aboard(0, 40), NONE);
        x.dueLane(0, 41, 42);
    }

    @Sentence(words = "its LOAD is what they weigh together")
    static void loadIsTheirWeight(Run x) {
        x.build(1, 10000, 1000);
        x.due(x.state(0, 4), 0);
        for (int i = 1; i <= 10; i++) {
            x.arrive(0, 1000);
            x.board(0, 1);
            x.due(x.state(0, 4), 1000 * i);
        }
        for (int i = 9; i >= 0; i--) {
            x.land(0, 1);
            x.due(x.state(0, 4), 1000 * i);
        }
    }

    // ---- to take

    @Sentence(words = "if it has none, the call is over at once, and its answer MISSING (what was done ahead of that stays)")
    static void missingAndWhatWasDoneStays(Run x) {
        x.build(2, 100, 50);
        x.arriveAll(0, 10, 20);
        x.board(0, 1);
        x.lay(0, NONE);
        x.due(x.board(0, 1), MISSING);
        x.dueGate(0, 2, 1);
        x.lay(0, 0);
        x.hinge(0, NONE);
        x.due(x.land(0, 1), MISSING);
        x.dueRamp(0, 2, 10);
        x.due(x.swap(1, 0), MISSING);
        x.dueGate(1, 1, 0);
        x.due(x.shift(1, 0, 1), MISSING);
        x.dueGate(1, 2, 0);
        x.dueLane(0, 20);
        x.dueAboard(0, 10);
        x.dueCounts(0, 0, 0);
    }

    @Sentence(words = "if it has none, the call is over at once")
    static void missingAtOnceTakesNothingMore(Run x) {
        x.build(2, 100, 50);
        x.arriveAll(0, 10, 20);
        x.board(0, 1);
        x.hinge(0, NONE);
        List<Integer> before = x.all();
        x.due(x.board(0, 1), MISSING);
        x.due(x.swap(0, 1), MISSING);
        x.due(x.shift(0, 1, 1), MISSING);
        x.dueUnchanged(before);
        x.hinge(0, 0);
        x.lay(0, NONE);
        before = x.all();
        x.due(x.land(0, 1), MISSING);
        x.dueUnchanged(before);
    }

    @Sentence(words = "else it is TAKEN, which is counted for each GATE and each RAMP")
    static void takenIsCountedForEach(Run x) {
        x.build(3, 100, 50);
        x.arriveAll(1, 10, 20, 30);
        x.board(1, 3);
        x.land(1, 2);
        x.tend(2);
        x.round(2, 1);
        x.due(x.ofGate(0, 0), 0);
        x.due(x.ofGate(1, 0), 3);
        x.due(x.ofGate(2, 0), 1);
        x.due(x.ofRamp(0, 0), 0);
        x.due(x.ofRamp(1, 0), 4);
        x.due(x.ofRamp(2, 0), 1);
    }

    @Sentence(words = "(it may be TAKEN again meanwhile, which is counted, too)")
    static void takenAgainMeanwhile(Run x) {
        x.build(3, 100, 50);
        x.hinge(1, 0);
        x.hinge(2, 0);
        x.swap(0, 1);
        x.due(x.ofGate(0, 0), 2);
        x.swap(0, 0);
        x.due(x.ofGate(0, 0), 4);
        x.round(0, 3);
        x.due(x.ofGate(0, 0), 7);
        x.arriveAll(0, 5, 6);
        x.shift(0, 1, 2);
        x.due(x.ofGate(0, 0), 10);
    }

    @Sentence(words = "A vehicle that goes through a GATE is counted there as PASSED.")
    static void passedIsCountedAtThatGate(Run x) {
        x.build(3, 100, 50);
        x.arriveAll(0, 5, 6, 7);
        x.due(x.ofGate(0, 1), 0);
        x.board(0, 2);
        x.due(x.ofGate(0, 1), 2);
        x.land(0, 1);
        x.due(x.ofGate(0, 1), 3);
        x.shift(0, 1, 1);
        x.due(x.ofGate(0, 1), 4);
        x.due(x.ofGate(1, 1), 1);
        x.swap(0, 2);
        x.round(0, 3);
        x.due(x.ofGate(0, 1), 4);
        x.due(x.ofGate(1, 1), 1);
        x.due(x.ofGate(2, 1), 0);
    }

    // ---- an alarm

    @Sentence(words = "AN ALARM: the call is over at once, and its answer the one told there (what was done ahead of that stays)")
    static void alarmEndsTheCallAndWhatWasDoneStays(Run x) {
        x.build(2, 100, 50);
        x.arriveAll(0, 10, 0, 20);
        x.due(x.board(0, 3), STALLED);
        x.dueAboard(0, 10);
        x.dueLane(0, 20);
        x.dueGate(0, 1, 1);
        x.dueRamp(0, 2, 10);
        x.board(0, 1);
        x.arrive(0, 5);
        x.board(0, 1);
        x.ramp(10);
        x.lay(0, 2);
        x.due(x.land(0, 3), STALLED);
        x.dueAboard(0, 10, 20);
        x.dueGate(0, 5, 4);
        x.dueRamp(2, 1, 5);
        x.shut(1, true);
        x.due(x.round(0, 2), DENIED);
        x.due(x.ofGate(0, 0), 6);
        x.due(x.ofGate(1, 0), 1);
        x.due(x.tend(1), DENIED);
        x.dueRamp(1, 1, 0);
        x.dueCounts(1, 1, 4);
    }

    @Sentence(words = "ALARMS are one more.")
    static void eachAlarmIsOneMore(Run x) {
        x.build(1, 100, 50);
        x.arriveAll(0, 0, 0, 30);
        x.due(x.count(6), 0);
        x.board(0, 30);
        x.due(x.count(6), 1);
        x.board(0, 30);
        x.due(x.count(6), 2);
        x.board(0, 30);
        x.due(x.count(6), 2);
        x.ramp(29);
        x.lay(0, 1);
        x.land(0, 1);
        x.due(x.count(6), 3);
        x.tend(1);
        x.due(x.count(6), 4);
        x.shut(0, true);
        x.round(0, 1);
        x.due(x.count(6), 5);
    }

    @Sentence(words = "AN ALARM: .. ALARMS are one more.")
    static void otherStopsAreNoAlarms(Run x) {
        x.buildBusy();
        x.due(x.count(6), 1);
        x.due(x.board(0, 0), BAD);
        x.arriveMany(0, 28, 5);
        x.due(x.arrive(0, 5), FULL);
        x.shut(0, true);
        x.due(x.board(0, 1), DENIED);
        x.due(x.swap(0, 1), DENIED);
        x.due(x.shift(0, 1, 1), DENIED);
        x.due(x.shift(1, 0, 1), 0);
        x.due(x.land(0, 1), 0);
        x.hinge(0, NONE);
        x.due(x.board(0, 1), MISSING);
        x.due(x.land(0, 1), MISSING);
        x.due(x.swap(1, 0), MISSING);
        x.due(x.shift(1, 0, 1), MISSING);
        x.due(x.round(0, 1), 0);
        x.due(x.count(6), 1);
    }

    // ---- BAD and FULL

    @Sentence(words = "BAD is the answer, and nothing changes, when a number is not as told")
    static void badNumberChangesNothing(Run x) {
        x.buildBusy();
        List<Integer> before = x.all();
        for (int far : new int[] {Run.LOW, Run.HIGH}) {
            x.due(x.ramp(far), BAD);
            x.due(x.berth(far), BAD);
            x.due(x.arrive(0, far), BAD);
            x.due(x.board(0, far), BAD);
            x.due(x.land(0, far), BAD);
            x.due(x.round(0, far), BAD);
            x.due(x.shift(0, 1, far), BAD);
            x.due(x.state(0, far), BAD);
            x.due(x.ofGate(0, far), BAD);
            x.due(x.ofRamp(0, far), BAD);
            x.due(x.count(far), BAD);
        }
        x.dueUnchanged(before);
    }

    @Sentence(words = "BAD is the answer, and nothing changes, when .. there is no such GATE")
    static void noSuchGateChangesNothing(Run x) {
        x.buildBusy();
        List<Integer> before = x.all();
        for (int g : new int[] {Run.LOW, -2, 2, 15, 16, Run.HIGH}) {
            x.due(x.hinge(0, g), BAD);
            x.due(x.shut(g, true), BAD);
            x.due(x.ofGate(g, 0), BAD);
        }
        x.due(x.shut(NONE, true), BAD);
        x.due(x.ofGate(NONE, 0), BAD);
        x.dueUnchanged(before);
    }

    @Sentence(words = "BAD is the answer, and nothing changes, when .. there is no such .. RAMP")
    static void noSuchRampChangesNothing(Run x) {
        x.buildBusy();
        List<Integer> before = x.all();
        for (int r : new int[] {Run.LOW, -2, 2, 15, 16, Run.HIGH}) {
            x.due(x.lay(0, r), BAD);
            x.due(x.tend(r), BAD);
            x.due(x.ofRamp(r, 0), BAD);
        }
        x.due(x.tend(NONE), BAD);
        x.due(x.ofRamp(NONE, 0), BAD);
        x.dueUnchanged(before);
    }

    @Sentence(words = "BAD is the answer, and nothing changes, when .. there is no such .. BERTH")
    static void noSuchBerthChangesNothing(Run x) {
        x.buildBusy();
        List<Integer> before = x.all();
        for (int b : new int[] {Run.LOW, -1, 2, 7, 8, Run.HIGH}) {
            x.due(x.hinge(b, 0), BAD);
            x.due(x.hinge(b, NONE), BAD);
            x.due(x.lay(b, 0), BAD);
            x.due(x.lay(b, NONE), BAD);
            x.due(x.arrive(b, 5), BAD);
            x.due(x.board(b, 1), BAD);
            x.due(x.land(b, 1), BAD);
            x.due(x.swap(b, 0), BAD);
            x.due(x.swap(0, b), BAD);
            x.due(x.round(b, 1), BAD);
            x.due(x.shift(b, 0, 1), BAD);
            x.due(x.shift(0, b, 1), BAD);
            x.due(x.state(b, 0), BAD);
            x.due(x.waiting(b, 0), BAD);
            x.due(x.aboard(b, 0), BAD);
        }
        x.dueUnchanged(before);
    }

    @Sentence(words = "FULL, when there is no room for one more.")
    static void fullChangesNothing(Run x) {
        for (int i = 0; i < 16; i++) {
            x.gate();
            x.ramp(5);
        }
        for (int b = 0; b < 8; b++) {
            x.berth(5);
        }
        x.arriveMany(0, 30, 5);
        List<Integer> before = x.all();
        for (int again = 0; again < 2; again++) {
            x.due(x.gate(), FULL);
            x.due(x.ramp(6), FULL);
            x.due(x.berth(6), FULL);
            x.due(x.arrive(0, 6), FULL);
        }
        x.dueUnchanged(before);
    }

    @Sentence(words = "FULL, when there is no room for one more.")
    static void fullOnlyWithNoRoom(Run x) {
        for (int i = 0; i < 15; i++) {
            x.gate();
            x.ramp(5);
        }
        for (int b = 0; b < 7; b++) {
            x.berth(5);
        }
        x.arriveMany(0, 29, 5);
        x.due(x.gate(), 15);
        x.due(x.ramp(6), 15);
        x.due(x.berth(6), 7);
        x.due(x.arrive(0, 6), 30);
    }

    @Sentence(words = "BAD goes ahead of FULL")
    static void badAheadOfFull(Run x) {
        for (int r = 0; r < 16; r++) {
            x.ramp(5);
        }
        for (int b = 0; b < 8; b++) {
            x.berth(5);
        }
        x.arriveMany(0, 30, 5);
        x.due(x.ramp(0), BAD);
        x.due(x.ramp(1001), BAD);
        x.due(x.berth(-1), BAD);
        x.due(x.berth(10001), BAD);
        x.due(x.arrive(0, -1), BAD);
        x.due(x.arrive(0, 2001), BAD);
    }

    @Sentence(words = "both ahead of all else")
    static void badAheadOfMissing(Run x) {
        x.build(2, 100, 50);
        x.berth(100);
        x.arrive(2, 5);
        x.due(x.board(2, 31), BAD);
        x.due(x.land(2, 41), BAD);
        x.due(x.swap(2, 3), BAD);
        x.due(x.swap(3, 2), BAD);
        x.due(x.shift(2, 0, 31), BAD);
        x.due(x.shift(2, 2, 1), BAD);
        x.due(x.shift(2, 3, 1), BAD);
        x.due(x.round(2, 9), BAD);
    }

    @Sentence(words = "both ahead of all else")
    static void badAheadOfShut(Run x) {
        x.build(2, 100, 50);
        x.arriveAll(0, 5, 6);
        x.board(0, 1);
        x.shut(0, true);
        List<Integer> before = x.all();
        x.due(x.board(0, 0), BAD);
        x.due(x.land(0, 0), BAD);
        x.due(x.swap(0, 2), BAD);
        x.due(x.shift(0, 0, 1), BAD);
        x.due(x.shift(0, 1, 0), BAD);
        x.due(x.round(0, 0), BAD);
        x.dueUnchanged(before);
    }

    @Sentence(words = "both ahead of all else")
    static void badAheadOfAlarms(Run x) {
        x.build(1, 100, 50);
        x.arriveAll(0, 40, 0);
        x.board(0, 1);
        x.ramp(39);
        x.lay(0, 1);
        List<Integer> before = x.all();
        x.due(x.board(0, 31), BAD);
        x.due(x.land(0, 41), BAD);
        x.dueUnchanged(before);
    }

    // ---- what it is

    @Sentence(words = "each vehicle is in one place, whatever stops it on its way.")
    static void eachVehicleIsInOnePlace(Run x) {
        x.build(2, 60, 50);
        x.arriveAll(0, 10, 51, 0, 20, 40, 5);
        x.board(0, 30);
        x.dueLane(0, 20, 40, 5, 51);
        x.dueAboard(0, 10);
        x.board(0, 30);
        x.dueLane(0, 40, 5, 51);
        x.dueAboard(0, 10, 20);
        x.shift(0, 1, 2);
        x.dueLane(0, 51);
        x.dueLane(1, 40, 5);
        x.ramp(10);
        x.lay(0, 2);
        x.land(0, 40);
        x.dueAboard(0, 10, 20);
        x.swap(0, 1);
        x.dueAboard(0);
        x.dueAboard(1, 10, 20);
        x.land(1, 1);
        x.dueAboard(1, 10);
        x.due(x.count(3), 6);
        x.dueCounts(1, 1, 2);
    }

    @Sentence(words = "An object is used for at most 512 calls after it has been made")
    static void the512thCallAnswersLikeTheFirst(Run x) {
        x.build(1, 1000, 300);
        int trips = 0;
        while (x.calls() <= Run.MOST_CALLS - 7) {
            x.due(x.arrive(0, 100), 1);
            x.due(x.board(0, 1), 1);
            x.due(x.land(0, 1), 1);
            trips++;
        }
        while (x.calls() < Run.MOST_CALLS - 4) {
            x.due(x.state(0, 2), 0);
        }
        x.due(x.count(4), trips);
        x.due(x.ofRamp(0, 1), 200 * trips);
        x.due(x.ofGate(0, 1), 2 * trips);
        x.due(x.ofGate(0, 0), 2 * trips);
        if (x.calls() != Run.MOST_CALLS) {
            x.fail("the test makes " + x.calls() + " calls");
        }
    }
}
