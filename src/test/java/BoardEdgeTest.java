import java.util.List;

/** The boundary cases of promise 9: board. */
public final class BoardEdgeTest {
    private static final int NONE = Run.NONE, BAD = Run.BAD, MISSING = Run.MISSING, DENIED = Run.DENIED,
        STALLED = Run.STALLED;

    public static void main(String[] args) {
        Sentences.testAll(BoardEdgeTest.class);
    }

    // ---- the gate

    @Sentence(promise = 9, words = "The GATE is TAKEN")
    static void gateIsTakenOnceACall(Run x) {
        x.build(1, 100, 50);
        x.due(x.board(0, 1), 0);
        x.due(x.ofGate(0, 0), 1);
        x.arriveAll(0, 1, 2, 3);
        x.due(x.board(0, 30), 3);
        x.due(x.ofGate(0, 0), 2);
    }

    @Sentence(promise = 9, words = "is it SHUT, the answer is DENIED.")
    static void shutIsDenied(Run x) {
        x.build(1, 100, 50);
        x.arriveAll(0, 0, 60, 5);
        x.shut(0, true);
        x.due(x.board(0, 30), DENIED);
        x.dueLane(0, 0, 60, 5);
        x.dueAboard(0);
        x.dueGate(0, 1, 0);
        x.dueRamp(0, 0, 0);
        x.dueCounts(0, 0, 0);
        x.shut(0, false);
        x.due(x.board(0, 30), STALLED);
    }

    @Sentence(promise = 9, words = "is it SHUT, the answer is DENIED.")
    static void shutIsDeniedWithAnEmptyLane(Run x) {
        x.build(1, 100, 50);
        x.shut(0, true);
        x.due(x.board(0, 1), DENIED);
        x.dueGate(0, 1, 0);
    }

    @Sentence(promise = 9, words = "is it SHUT, the answer is DENIED. Then ..: the RAMP is TAKEN")
    static void shutGoesAheadOfNoRamp(Run x) {
        x.build(1, 100, 50);
        x.arrive(0, 5);
        x.lay(0, NONE);
        x.shut(0, true);
        x.due(x.board(0, 1), DENIED);
        x.shut(0, false);
        x.due(x.board(0, 1), MISSING);
    }

    // ---- the turns

    @Sentence(promise = 9, words = "so many times as there are vehicles in the LANE now")
    static void eachOfTheLaneHasOneTurn(Run x) {
        x.build(1, 100, 50);
        x.arriveAll(0, 51, 52, 53);
        x.due(x.board(0, 30), 0);
        x.dueLane(0, 51, 52, 53);
        x.due(x.ofRamp(0, 0), 3);
    }

    @Sentence(promise = 9, words = "so many times as there are vehicles in the LANE now")
    static void eachOfAFullLaneHasOneTurn(Run x) {
        x.build(1, 100, 50);
        for (int i = 0; i < 30; i++) {
            x.arrive(0, 51 + i);
        }
        for (int again = 1; again <= 2; again++) {
            x.due(x.board(0, 1), 0);
            x.due(x.ofRamp(0, 0), 30 * again);
            for (int i = 0; i < 30; i++) {
                x.due(x.waiting(0, i), 51 + i);
            }
        }
        x.due(x.waiting(0, 30), NONE);
        x.dueCounts(0, 0, 0);
    }

    @Sentence(promise = 9, words = "so many times as there are vehicles in the LANE now")
    static void emptyLaneHasNoTurn(Run x) {
        x.build(1, 100, 50);
        x.due(x.board(0, 30), 0);
        x.dueRamp(0, 0, 0);
        x.dueGate(0, 1, 0);
        x.lay(0, NONE);
        x.due(x.board(0, 30), 0);
    }

    @Sentence(promise = 9, words = "the RAMP is TAKEN for the first vehicle of the LANE")
    static void rampIsTakenForEachTurn(Run x) {
        x.build(1, 100, 50);
        x.arriveAll(0, 10, 60, 20, 80, 30);
        x.due(x.board(0, 3), 3);
        x.dueRamp(0, 5, 60);
        x.dueAboard(0, 10, 20, 30);
        x.dueLane(0, 60, 80);
    }

    // ---- WEIGHT 0

    @Sentence(promise = 9,
        words = "With WEIGHT 0 it is TOWED (gone from the LANE, and counted), and that is an ALARM: STALLED.")
    static void weight0IsTowed(Run x) {
        x.build(1, 100, 50);
        x.arriveAll(0, 0, 5, 6);
        x.due(x.board(0, 2), STALLED);
        x.dueLane(0, 5, 6);
        x.dueAboard(0);
        x.dueGate(0, 1, 0);
        x.dueRamp(0, 1, 0);
        x.dueCounts(0, 1, 1);
    }

    @Sentence(promise = 9, words = "With WEIGHT 0 it is TOWED")
    static void weight1IsNotTowed(Run x) {
        x.build(1, 100, 50);
        x.arrive(0, 1);
        x.due(x.board(0, 1), 1);
        x.dueAboard(0, 1);
        x.dueCounts(0, 0, 0);
    }

    @Sentence(promise = 9, words = "that is an ALARM: STALLED.", here = "what was done ahead of that stays")
    static void whatWentAheadOfTheTowedStays(Run x) {
        x.build(1, 100, 50);
        x.arriveAll(0, 60, 10, 0, 20, 0);
        x.due(x.board(0, 30), STALLED);
        x.dueAboard(0, 10);
        x.dueLane(0, 20, 0, 60);
        x.dueGate(0, 1, 1);
        x.dueRamp(0, 3, 10);
        x.dueCounts(0, 1, 1);
        x.due(x.board(0, 30), STALLED);
        x.dueAboard(0, 10, 20);
        x.dueLane(0, 60);
        x.dueCounts(0, 2, 2);
    }

    @Sentence(promise = 9,
        words = "With WEIGHT 0 it is TOWED .. Would the FERRY's LOAD be above its ROOM with it, or are 40 aboard")
    static void towedThoughFerryIsFull(Run x) {
        x.build(1, 40, 50);
        for (int i = 0; i < 40; i++) {
            x.arrive(0, 1);
            x.board(0, 1);
        }
        x.arriveAll(0, 0, 1);
        x.due(x.board(0, 1), STALLED);
        x.dueLane(0, 1);
        x.due(x.state(0, 3), 40);
        x.dueCounts(0, 1, 1);
    }

    // ---- above the limit

    @Sentence(promise = 9,
        words = "Above the RAMP's LIMIT it goes to the end of the LANE, and the next one's turn comes.")
    static void aboveTheLimitGoesToTheEnd(Run x) {
        x.build(1, 1000, 50);
        x.arriveAll(0, 51, 2000, 50, 49);
        x.due(x.board(0, 1), 1);
        x.dueAboard(0, 50);
        x.dueLane(0, 49, 51, 2000);
        x.dueRamp(0, 3, 50);
        x.dueGate(0, 1, 1);
        x.dueCounts(0, 0, 0);
    }

    @Sentence(promise = 9, words = "Above the RAMP's LIMIT")
    static void theLimitItselfIsNotAbove(Run x) {
        x.build(1, 10000, 1000);
        x.arriveAll(0, 1000, 1001);
        x.due(x.board(0, 30), 1);
        x.dueAboard(0, 1000);
        x.dueLane(0, 1001);
        x.ramp(1);
        x.lay(0, 1);
        x.arriveAll(0, 1, 2);
        x.due(x.board(0, 30), 1);
        x.dueAboard(0, 1000, 1);
        x.dueLane(0, 1001, 2);
    }

    @Sentence(promise = 9,
        words = "Above the RAMP's LIMIT it goes to the end of the LANE .. Would the FERRY's LOAD be above its ROOM")
    static void aboveTheLimitGoesAheadOfNoRoom(Run x) {
        x.build(1, 10, 50);
        x.arriveAll(0, 51, 11, 5);
        x.due(x.board(0, 30), 0);
        x.dueLane(0, 11, 5, 51);
        x.due(x.ofRamp(0, 0), 2);
    }

    @Sentence(promise = 9, words = "Above the RAMP's LIMIT it goes to the end of the LANE .. or are 40 aboard")
    static void aboveTheLimitGoesAheadOf40Aboard(Run x) {
        x.build(1, 1000, 50);
        for (int i = 0; i < 40; i++) {
            x.arrive(0, 1);
            x.board(0, 1);
        }
        x.arriveAll(0, 51, 1, 2);
        x.due(x.board(0, 30), 0);
        x.dueLane(0, 1, 2, 51);
        x.due(x.ofRamp(0, 0), 42);
    }

    // ---- no room

    @Sentence(promise = 9,
        words = "Would the FERRY's LOAD be above its ROOM with it, .. the call is over: how many went aboard.")
    static void aboveTheRoomEndsTheCall(Run x) {
        x.build(1, 10, 50);
        x.arriveAll(0, 4, 5, 2, 1);
        x.due(x.board(0, 30), 2);
        x.dueAboard(0, 4, 5);
        x.dueLane(0, 2, 1);
        x.dueGate(0, 1, 2);
        x.dueRamp(0, 3, 9);
        x.dueCounts(0, 0, 0);
    }

    @Sentence(promise = 9, words = "Would the FERRY's LOAD be above its ROOM with it")
    static void theRoomItselfIsNotAbove(Run x) {
        x.build(1, 10, 50);
        x.arriveAll(0, 4, 6, 1);
        x.due(x.board(0, 30), 2);
        x.dueAboard(0, 4, 6);
        x.dueLane(0, 1);
    }

    @Sentence(promise = 9, words = "Would the FERRY's LOAD be above its ROOM with it", here = "ROOM 0")
    static void room0TakesNobody(Run x) {
        x.build(1, 0, 50);
        x.arriveAll(0, 1, 2);
        x.due(x.board(0, 30), 0);
        x.dueAboard(0);
        x.dueLane(0, 1, 2);
        x.dueGate(0, 1, 0);
        x.dueRamp(0, 1, 0);
    }

    @Sentence(promise = 9, words = "Would the FERRY's LOAD be above its ROOM with it", here = "ROOM 10000")
    static void room10000IsUsedUp(Run x) {
        x.build(1, 10000, 1000);
        x.arriveMany(0, 9, 1000);
        x.arriveAll(0, 999, 1, 1);
        x.due(x.board(0, 10), 10);
        x.due(x.state(0, 4), 9999);
        x.due(x.board(0, 30), 1);
        x.due(x.state(0, 4), 10000);
        x.dueLane(0, 1);
    }

    @Sentence(promise = 9, words = "Would the FERRY's LOAD be above its ROOM with it")
    static void roomThatIsFreeAgainIsUsed(Run x) {
        x.build(1, 10, 50);
        x.arriveAll(0, 10, 10);
        x.due(x.board(0, 30), 1);
        x.due(x.land(0, 1), 1);
        x.due(x.board(0, 30), 1);
        x.dueAboard(0, 10);
    }

    @Sentence(promise = 9, words = "or are 40 aboard, the call is over: how many went aboard.")
    static void the41stStays(Run x) {
        x.build(1, 10000, 50);
        x.arriveMany(0, 30, 1);
        x.due(x.board(0, 30), 30);
        x.arriveMany(0, 9, 1);
        x.arriveAll(0, 2, 3, 4);
        x.due(x.board(0, 30), 10);
        x.due(x.state(0, 3), 40);
        x.due(x.aboard(0, 39), 2);
        x.due(x.aboard(0, 40), NONE);
        x.dueLane(0, 3, 4);
        x.dueGate(0, 2, 40);
        x.dueRamp(0, 41, 41);
        x.due(x.board(0, 1), 0);
        x.dueLane(0, 3, 4);
        x.dueRamp(0, 42, 41);
        x.dueCounts(0, 0, 0);
    }

    // ---- aboard

    @Sentence(promise = 9, words = "Else it goes aboard through the GATE, and the RAMP's WEAR is its WEIGHT more")
    static void aboardThroughTheGate(Run x) {
        x.build(2, 100, 50);
        x.arriveAll(0, 50, 1);
        x.due(x.board(0, 1), 1);
        x.dueGate(0, 1, 1);
        x.dueRamp(0, 1, 50);
        x.due(x.board(0, 1), 1);
        x.dueGate(0, 2, 2);
        x.dueRamp(0, 2, 51);
        x.dueGate(1, 0, 0);
        x.dueRamp(1, 0, 0);
        x.dueAboard(1);
    }

    @Sentence(promise = 9, words = "is it the n-th that did, the call is over: n.")
    static void theNthEndsTheCall(Run x) {
        x.build(1, 100, 50);
        x.arriveAll(0, 10, 20, 30);
        x.due(x.board(0, 2), 2);
        x.dueAboard(0, 10, 20);
        x.dueLane(0, 30);
        x.dueRamp(0, 2, 30);
    }

    @Sentence(promise = 9, words = "is it the n-th that did, the call is over: n.",
        here = "ahead of one to be TOWED")
    static void theNthEndsTheCallAheadOfWeight0(Run x) {
        x.build(1, 100, 50);
        x.arriveAll(0, 10, 0);
        x.due(x.board(0, 1), 1);
        x.dueLane(0, 0);
        x.dueRamp(0, 1, 10);
        x.dueCounts(0, 0, 0);
    }

    @Sentence(promise = 9, words = "is it the n-th that did, the call is over: n.",
        here = "ahead of one above the LIMIT")
    static void theNthEndsTheCallAheadOfAboveTheLimit(Run x) {
        x.build(1, 100, 50);
        x.arriveAll(0, 10, 51, 20);
        x.due(x.board(0, 1), 1);
        x.dueLane(0, 51, 20);
        x.dueRamp(0, 1, 10);
    }

    @Sentence(promise = 9, words = "is it the n-th that did", here = "those sent to the end did not")
    static void thoseSentToTheEndAreNotOfTheN(Run x) {
        x.build(1, 100, 50);
        x.arriveAll(0, 51, 52, 10, 20, 30);
        x.due(x.board(0, 2), 2);
        x.dueAboard(0, 10, 20);
        x.dueLane(0, 30, 51, 52);
    }

    @Sentence(promise = 9, words = "Behind all of them: how many went aboard.")
    static void behindAllOfThem(Run x) {
        x.build(1, 100, 50);
        x.arriveAll(0, 51, 10, 52, 20);
        x.due(x.board(0, 3), 2);
        x.dueAboard(0, 10, 20);
        x.dueLane(0, 51, 52);
        x.due(x.board(0, 1), 0);
    }

    // ---- refused

    @Sentence(promise = 9, words = "BAD: b")
    static void badBerth(Run x) {
        x.buildBusy();
        List<Integer> before = x.all();
        for (int b : new int[] {Run.LOW, -1, 2, 8, Run.HIGH}) {
            x.due(x.board(b, 1), BAD);
        }
        x.dueUnchanged(before);
    }

    @Sentence(promise = 9, words = "BAD: .. n not 1 .. 30.")
    static void badN(Run x) {
        x.buildBusy();
        List<Integer> before = x.all();
        for (int n : new int[] {Run.LOW, -1, 0, 31, 40, Run.HIGH}) {
            x.due(x.board(0, n), BAD);
        }
        x.dueUnchanged(before);
    }

    @Sentence(promise = 9, words = "n not 1 .. 30.")
    static void nIs1Or30(Run x) {
        x.build(1, 100, 50);
        x.arriveMany(0, 30, 1);
        x.due(x.board(0, 1), 1);
        x.arrive(0, 1);
        x.due(x.board(0, 30), 30);
        x.due(x.state(0, 3), 31);
    }

    @Sentence(promise = 9, words = "BAD: b, n not 1 .. 30. MISSING.", here = "BAD goes first")
    static void badNGoesAheadOfMissing(Run x) {
        x.berth(100);
        x.due(x.board(0, 0), BAD);
        x.due(x.board(0, 31), BAD);
        x.due(x.board(0, 30), MISSING);
    }

    @Sentence(promise = 9, words = "is it SHUT, the answer is DENIED. .. BAD: b, n not 1 .. 30.",
        here = "BAD goes first")
    static void badNGoesAheadOfDenied(Run x) {
        x.build(1, 100, 50);
        x.shut(0, true);
        x.due(x.board(0, 0), BAD);
        x.due(x.board(0, 31), BAD);
        x.dueGate(0, 0, 0);
        x.due(x.board(0, 30), DENIED);
    }

    @Sentence(promise = 9, words = "MISSING.", here = "no GATE")
    static void noGateIsMissing(Run x) {
        x.build(1, 100, 50);
        x.arriveAll(0, 5, 0);
        x.hinge(0, NONE);
        x.due(x.board(0, 1), MISSING);
        x.dueLane(0, 5, 0);
        x.dueAboard(0);
        x.dueRamp(0, 0, 0);
        x.dueCounts(0, 0, 0);
    }

    @Sentence(promise = 9, words = "MISSING.", here = "no GATE, and nobody in the LANE")
    static void noGateIsMissingWithAnEmptyLane(Run x) {
        x.build(1, 100, 50);
        x.hinge(0, NONE);
        x.due(x.board(0, 1), MISSING);
        x.dueRamp(0, 0, 0);
    }

    @Sentence(promise = 9, words = "MISSING.", here = "no RAMP")
    static void noRampIsMissing(Run x) {
        x.build(1, 0, 50);
        x.arriveAll(0, 0, 5);
        x.lay(0, NONE);
        x.due(x.board(0, 1), MISSING);
        x.dueLane(0, 0, 5);
        x.dueAboard(0);
        x.dueGate(0, 1, 0);
        x.dueCounts(0, 0, 0);
    }
}
