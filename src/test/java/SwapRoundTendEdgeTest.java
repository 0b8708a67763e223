import java.util.List;

/** The boundary cases of promises 11 to 13: swap, round, tend. */
public final class SwapRoundTendEdgeTest {
    private static final int NONE = Run.NONE, BAD = Run.BAD, MISSING = Run.MISSING, DENIED = Run.DENIED;

    public static void main(String[] args) {
        Sentences.testAll(SwapRoundTendEdgeTest.class);
    }

    /** So many berths, each with a gate, a ramp, and one vehicle aboard: 1 at berth 0, 2 at berth 1, 4 .. */
    private static void buildLoaded(Run x, int berths) {
        x.build(berths, 1000, 300);
        for (int b = 0; b < berths; b++) {
            x.arrive(b, 1 << b);
            x.board(b, 1);
        }
    }

    // ---- promise 11: swap

    @Sentence(promise = 11, words = "The GATE of BERTH a, then that of b is TAKEN")
    static void swapTakesBothGates(Run x) {
        buildLoaded(x, 3);
        x.due(x.swap(0, 2), 4);
        x.dueGate(0, 2, 1);
        x.dueGate(1, 1, 1);
        x.dueGate(2, 2, 1);
    }

    @Sentence(promise = 11, words = "(they may be one and the same ..)")
    static void swapWithOneGate(Run x) {
        buildLoaded(x, 2);
        x.hinge(1, 0);
        x.due(x.swap(0, 1), 2);
        x.dueAboard(0, 2);
        x.dueAboard(1, 1);
        x.dueGate(0, 3, 1);
        x.dueGate(1, 1, 1);
    }

    @Sentence(promise = 11, words = "(.. a and b, too)")
    static void swapWithItself(Run x) {
        buildLoaded(x, 2);
        x.due(x.swap(1, 1), 2);
        x.dueAboard(0, 1);
        x.dueAboard(1, 2);
        x.dueGate(0, 1, 1);
        x.dueGate(1, 3, 1);
    }

    @Sentence(promise = 11, words = "Is one of them SHUT, the answer is DENIED.", here = "that of a")
    static void swapWithAShut(Run x) {
        buildLoaded(x, 2);
        x.shut(0, true);
        x.due(x.swap(0, 1), DENIED);
        x.dueAboard(0, 1);
        x.dueAboard(1, 2);
        x.dueGate(0, 2, 1);
        x.dueGate(1, 2, 1);
        x.dueCounts(0, 0, 0);
    }

    @Sentence(promise = 11, words = "Is one of them SHUT, the answer is DENIED.", here = "that of b")
    static void swapWithBShut(Run x) {
        buildLoaded(x, 2);
        x.shut(1, true);
        x.due(x.swap(0, 1), DENIED);
        x.dueAboard(0, 1);
        x.dueAboard(1, 2);
        x.dueGate(0, 2, 1);
        x.dueGate(1, 2, 1);
        x.dueCounts(0, 0, 0);
    }

    @Sentence(promise = 11, words = "Is one of them SHUT, the answer is DENIED.", here = "both")
    static void swapWithBothShut(Run x) {
        buildLoaded(x, 2);
        x.shut(0, true);
        x.shut(1, true);
        x.due(x.swap(0, 1), DENIED);
        x.due(x.swap(1, 1), DENIED);
        x.dueGate(0, 2, 1);
        x.dueGate(1, 4, 1);
        x.dueCounts(0, 0, 0);
    }

    @Sentence(promise = 11, words = "Else the FERRIES, with all that is aboard, change places")
    static void swapTakesRoomAndVehiclesAlong(Run x) {
        x.build(1, 100, 50);
        x.berth(0);
        x.gate();
        x.hinge(1, 1);
        x.arriveAll(0, 5, 6, 7);
        x.arrive(1, 9);
        x.board(0, 2);
        x.due(x.swap(0, 1), 0);
        x.dueAboard(0);
        x.due(x.state(0, 5), 0);
        x.dueAboard(1, 5, 6);
        x.due(x.state(1, 5), 100);
        x.dueLane(0, 7);
        x.dueLane(1, 9);
        x.due(x.state(0, 0), 0);
        x.due(x.state(0, 1), 0);
        x.due(x.state(1, 0), 1);
        x.due(x.state(1, 1), NONE);
    }

    @Sentence(promise = 11, words = "Else the FERRIES, with all that is aboard, change places", here = "40 aboard")
    static void swapMovesAFullFerry(Run x) {
        x.build(2, 1000, 50);
        for (int i = 1; i <= 40; i++) {
            x.arrive(0, i);
            x.board(0, 1);
        }
        x.due(x.swap(1, 0), 820);
        x.due(x.state(1, 3), 40);
        for (int i = 1; i <= 40; i++) {
            x.due(x.aboard(1, i - 1), i);
        }
        x.arriveAll(0, 3);
        x.arriveAll(1, 4);
        x.due(x.board(1, 1), 0);
        x.due(x.board(0, 1), 1);
        x.dueAboard(0, 3);
    }

    @Sentence(promise = 11, words = "the LOAD at a then.")
    static void swapTellsTheLoadAtA(Run x) {
        buildLoaded(x, 3);
        x.due(x.swap(0, 1), 2);
        x.due(x.swap(0, 1), 1);
        x.due(x.swap(2, 0), 1);
        x.due(x.swap(2, 2), 1);
    }

    @Sentence(promise = 11, words = "BAD: a")
    static void swapBadA(Run x) {
        buildLoaded(x, 2);
        x.shut(0, true);
        x.gate();
        List<Integer> before = x.all();
        for (int a : new int[] {Run.LOW, -1, 2, 8, Run.HIGH}) {
            x.due(x.swap(a, 0), BAD);
            x.due(x.swap(a, 1), BAD);
            x.due(x.swap(a, a), BAD);
        }
        x.dueUnchanged(before);
    }

    @Sentence(promise = 11, words = "BAD: .. b.")
    static void swapBadB(Run x) {
        buildLoaded(x, 2);
        x.shut(0, true);
        x.gate();
        List<Integer> before = x.all();
        for (int b : new int[] {Run.LOW, -1, 2, 8, Run.HIGH}) {
            x.due(x.swap(0, b), BAD);
            x.due(x.swap(1, b), BAD);
        }
        x.dueUnchanged(before);
    }

    @Sentence(promise = 11, words = "MISSING.", here = "a has no GATE")
    static void swapWithoutGateAtA(Run x) {
        buildLoaded(x, 2);
        x.hinge(0, NONE);
        List<Integer> before = x.all();
        x.due(x.swap(0, 1), MISSING);
        x.due(x.swap(0, 0), MISSING);
        x.dueUnchanged(before);
    }

    @Sentence(promise = 11, words = "MISSING.", here = "b has no GATE; what was done ahead of that stays")
    static void swapWithoutGateAtB(Run x) {
        buildLoaded(x, 2);
        x.hinge(1, NONE);
        x.due(x.swap(0, 1), MISSING);
        x.dueGate(0, 2, 1);
        x.dueAboard(0, 1);
        x.dueAboard(1, 2);
        x.dueCounts(0, 0, 0);
    }

    @Sentence(promise = 11,
        words = "The GATE of BERTH a, then that of b is TAKEN .. Is one of them SHUT, the answer is DENIED.")
    static void swapMissingGoesAheadOfShut(Run x) {
        buildLoaded(x, 2);
        x.hinge(1, NONE);
        x.shut(0, true);
        x.due(x.swap(0, 1), MISSING);
        x.due(x.ofGate(0, 0), 2);
        x.due(x.swap(1, 0), MISSING);
        x.due(x.ofGate(0, 0), 2);
    }

    @Sentence(promise = 11, words = "The GATE of BERTH a, then that of b is TAKEN", here = "no RAMP")
    static void swapTakesNoRamp(Run x) {
        buildLoaded(x, 2);
        x.lay(0, NONE);
        x.due(x.swap(0, 1), 2);
        x.dueRamp(0, 1, 1);
        x.dueRamp(1, 1, 2);
    }

    // ---- promise 12: round

    @Sentence(promise = 12, words = "A ROUND, at BERTH b first, with a total of 0.")
    static void roundBeginsAtB(Run x) {
        buildLoaded(x, 3);
        x.due(x.round(2, 1), 4);
        x.due(x.round(1, 1), 2);
        x.due(x.round(1, 1), 2);
        x.dueGate(0, 1, 1);
        x.dueGate(1, 3, 1);
        x.dueGate(2, 2, 1);
    }

    @Sentence(promise = 12, words = "has it no GATE, the ROUND is over (that is not MISSING here)")
    static void roundWithoutGateAtFirst(Run x) {
        buildLoaded(x, 3);
        x.hinge(0, NONE);
        List<Integer> before = x.all();
        x.due(x.round(0, 8), 0);
        x.dueUnchanged(before);
    }

    @Sentence(promise = 12, words = "has it no GATE, the ROUND is over", here = "the total so far")
    static void roundWithoutGateLater(Run x) {
        buildLoaded(x, 4);
        x.hinge(2, NONE);
        x.due(x.round(0, 8), 3);
        x.due(x.ofGate(0, 0), 2);
        x.due(x.ofGate(1, 0), 2);
        x.due(x.ofGate(2, 0), 1);
        x.due(x.ofGate(3, 0), 1);
        x.dueCounts(0, 0, 0);
    }

    @Sentence(promise = 12, words = "else that is TAKEN (and kept to the end of the ROUND).")
    static void roundTakesOneGateForEachBerth(Run x) {
        buildLoaded(x, 4);
        x.hinge(1, 0);
        x.hinge(3, 0);
        x.due(x.round(0, 4), 15);
        x.dueGate(0, 4, 1);
        x.dueGate(1, 1, 1);
        x.dueGate(2, 2, 1);
    }

    @Sentence(promise = 12, words = "Is it SHUT, that is an ALARM: DENIED.")
    static void roundShutAtFirst(Run x) {
        buildLoaded(x, 2);
        x.shut(0, true);
        x.due(x.round(0, 1), DENIED);
        x.due(x.ofGate(0, 0), 2);
        x.due(x.ofGate(1, 0), 1);
        x.dueCounts(0, 0, 1);
    }

    @Sentence(promise = 12, words = "Is it SHUT, that is an ALARM: DENIED.",
        here = "what was done ahead of that stays")
    static void roundShutLater(Run x) {
        buildLoaded(x, 4);
        x.shut(2, true);
        x.due(x.round(0, 8), DENIED);
        x.due(x.ofGate(0, 0), 2);
        x.due(x.ofGate(1, 0), 2);
        x.due(x.ofGate(2, 0), 2);
        x.due(x.ofGate(3, 0), 1);
        x.dueCounts(0, 0, 1);
    }

    @Sentence(promise = 12, words = "Is it SHUT, that is an ALARM: DENIED.",
        here = "at the last BERTH, and at the last of most")
    static void roundShutAtTheLast(Run x) {
        buildLoaded(x, 2);
        x.shut(1, true);
        x.due(x.round(0, 2), DENIED);
        x.due(x.round(1, 8), DENIED);
        x.dueCounts(0, 0, 2);
    }

    @Sentence(promise = 12, words = "The total is more by its FERRY's LOAD")
    static void roundAddsTheLoadOfTheFerryThatIsThere(Run x) {
        buildLoaded(x, 2);
        x.arrive(0, 100);
        x.due(x.round(0, 1), 1);
        x.board(0, 1);
        x.due(x.round(0, 1), 101);
        x.swap(0, 1);
        x.due(x.round(0, 1), 2);
        x.due(x.round(0, 2), 103);
        x.land(0, 1);
        x.due(x.round(0, 1), 0);
        x.due(x.round(0, 2), 101);
    }

    @Sentence(promise = 12, words = "The total is more by its FERRY's LOAD", here = "8 times 10000")
    static void roundTellsTheLargestTotal(Run x) {
        x.build(8, 10000, 1000);
        for (int b = 0; b < 8; b++) {
            x.arriveMany(b, 10, 1000);
            x.board(b, 10);
        }
        x.due(x.round(0, 8), 80000);
    }

    @Sentence(promise = 12, words = "if so many BERTHS as most were come to .. the ROUND is over")
    static void roundEndsWithMost(Run x) {
        buildLoaded(x, 4);
        x.due(x.round(0, 1), 1);
        x.due(x.round(0, 3), 7);
        x.due(x.round(1, 2), 6);
        x.due(x.ofGate(0, 0), 3);
        x.due(x.ofGate(1, 0), 3);
        x.due(x.ofGate(2, 0), 3);
        x.due(x.ofGate(3, 0), 1);
    }

    @Sentence(promise = 12, words = "if so many BERTHS as most were come to .. the ROUND is over",
        here = "ahead of a SHUT one")
    static void roundEndsWithMostAheadOfShut(Run x) {
        buildLoaded(x, 3);
        x.shut(2, true);
        x.due(x.round(0, 2), 3);
        x.due(x.ofGate(2, 0), 1);
        x.dueCounts(0, 0, 0);
    }

    @Sentence(promise = 12, words = "or this is the last one, the ROUND is over")
    static void roundEndsWithTheLastBerth(Run x) {
        buildLoaded(x, 3);
        x.due(x.round(1, 8), 6);
        x.due(x.round(2, 2), 4);
        x.due(x.ofGate(0, 0), 1);
        x.due(x.ofGate(1, 0), 2);
        x.due(x.ofGate(2, 0), 3);
    }

    @Sentence(promise = 12, words = "or this is the last one, the ROUND is over", here = "of 8")
    static void roundEndsWithThe8thBerth(Run x) {
        buildLoaded(x, 8);
        x.due(x.round(7, 8), 128);
        x.due(x.round(7, 1), 128);
        x.due(x.round(6, 3), 192);
        x.due(x.round(0, 8), 255);
        x.due(x.round(0, 7), 127);
        x.due(x.ofGate(0, 0), 3);
        x.due(x.ofGate(7, 0), 5);
    }

    @Sentence(promise = 12, words = "BAD: b")
    static void roundBadBerth(Run x) {
        buildLoaded(x, 2);
        x.shut(0, true);
        x.gate();
        List<Integer> before = x.all();
        for (int b : new int[] {Run.LOW, -1, 2, 8, Run.HIGH}) {
            x.due(x.round(b, 1), BAD);
            x.due(x.round(b, 8), BAD);
        }
        x.dueUnchanged(before);
    }

    @Sentence(promise = 12, words = "BAD: .. most not 1 .. 8.")
    static void roundBadMost(Run x) {
        buildLoaded(x, 2);
        x.shut(0, true);
        List<Integer> before = x.all();
        for (int most : new int[] {Run.LOW, -1, 0, 9, Run.HIGH}) {
            x.due(x.round(0, most), BAD);
            x.due(x.round(1, most), BAD);
        }
        x.dueUnchanged(before);
    }

    @Sentence(promise = 12, words = "BAD: b, most not 1 .. 8.", here = "ahead of no GATE")
    static void roundBadGoesAheadOfNoGate(Run x) {
        x.berth(5);
        x.due(x.round(0, 0), BAD);
        x.due(x.round(0, 9), BAD);
        x.due(x.round(0, 1), 0);
        x.due(x.round(0, 8), 0);
    }

    // ---- promise 13: tend

    @Sentence(promise = 13, words = "RAMP r is TAKEN")
    static void tendTakesTheRamp(Run x) {
        buildLoaded(x, 2);
        x.tend(1);
        x.due(x.ofRamp(0, 0), 1);
        x.due(x.ofRamp(1, 0), 2);
        x.tend(1);
        x.due(x.ofRamp(1, 0), 3);
    }

    @Sentence(promise = 13, words = "its WEAR is 0 then: what it was.")
    static void tendTellsTheWear(Run x) {
        buildLoaded(x, 2);
        x.land(1, 1);
        x.due(x.tend(1), 4);
        x.due(x.ofRamp(1, 1), 0);
        x.due(x.ofRamp(0, 1), 1);
        x.due(x.ofRamp(1, 2), 300);
        x.due(x.count(6), 0);
        x.due(x.tend(0), 1);
        x.due(x.count(6), 0);
    }

    @Sentence(promise = 13, words = "With a WEAR of 0 that is an ALARM: DENIED.")
    static void tendWithoutWear(Run x) {
        x.ramp(300);
        x.due(x.tend(0), DENIED);
        x.dueRamp(0, 1, 0);
        x.due(x.count(6), 1);
        x.due(x.tend(0), DENIED);
        x.dueRamp(0, 2, 0);
        x.due(x.count(6), 2);
    }

    @Sentence(promise = 13, words = "With a WEAR of 0 that is an ALARM: DENIED.", here = "behind a tend")
    static void tendTwice(Run x) {
        buildLoaded(x, 1);
        x.due(x.tend(0), 1);
        x.due(x.tend(0), DENIED);
        x.due(x.count(6), 1);
        x.arrive(0, 2);
        x.board(0, 1);
        x.due(x.tend(0), 2);
        x.due(x.count(6), 1);
    }

    @Sentence(promise = 13, words = "BAD: r.")
    static void tendBadRamp(Run x) {
        buildLoaded(x, 2);
        x.gate();
        x.berth(5);
        List<Integer> before = x.all();
        for (int r : new int[] {Run.LOW, -1, 2, 16, Run.HIGH}) {
            x.due(x.tend(r), BAD);
        }
        x.dueUnchanged(before);
    }
}
