/** The part 'What it is', each sentence that a run of calls can come to. */
public final class WhatItIsTest {
    private static final Due DUE = new Due("What it is");

    public static void main(String[] args) {
        DUE.holds("'used for at most 512 calls': the 512th still answers", WhatItIsTest::theLastCallAnswers);
        DUE.holds("'used for at most 512 calls': 512 that are refused", WhatItIsTest::refusedCallsWearNothingOut);
        DUE.holds("'found way by way', 'as much as can be', 'as cheap as that can be'", WhatItIsTest::wayByWay);
        DUE.finish();
    }

    // What it is, "An object is used for at most 512 calls": 31 edges and ends make the net, then it is
    // solved again and again; calls are counted, so that the last one is the 512th.
    private static void theLastCallAnswers() {
        FlowProofs x = Nets.manyRounds();
        int calls = 32;
        DUE.is("edges and ends", calls, x.count(1) + 1);
        calls++;
        while (calls + 2 <= 510) {
            DUE.is("ends, call " + (calls + 1), true, x.ends(0, 11));
            DUE.is("run, call " + (calls + 2), FlowProofs.DONE, x.run(10_000));
            calls += 2;
        }
        while (calls < 511) {
            DUE.is("cost, call " + (calls + 1), 1178, x.cost());
            calls++;
        }
        DUE.is("check, call 512", true, x.check());
    }

    // What it is, "An object is used for at most 512 calls": refused ones are calls, too, and leave the rest right.
    private static void refusedCallsWearNothingOut() {
        FlowProofs x = Nets.withArcBack();
        for (int call = 7; call <= 510; call += 4) {
            DUE.is("edge", FlowProofs.BAD, x.edge(0, 0, 1, 1));
            DUE.is("ends", false, x.ends(3, 3));
            DUE.is("run", FlowProofs.BAD, x.run(-1));
            DUE.is("flow", FlowProofs.BAD, x.flow(5));
        }
        DUE.is("run, call 511", FlowProofs.DONE, x.run(2));
        DUE.is("value, call 512", 6, x.value());
    }

    // What it is, "as much as can be and as cheap as that can be, found way by way": the rounds' amounts
    // and costs add up to the value and the cost, and no round is cheaper than the one before.
    private static void wayByWay() {
        FlowProofs x = Nets.manyRounds();
        long cost = 0;
        int before = Integer.MIN_VALUE;
        for (int round = 1; round <= 38; round++) {
            int next = x.next();
            DUE.is("next of round " + round + " is not below the last", true, next >= before);
            before = next;
            cost += next;
            DUE.is("run(1), round " + round, round < 38 ? FlowProofs.MORE : FlowProofs.DONE, x.run(1));
            DUE.is("flows after round " + round, round, x.count(3));
        }
        DUE.is("value", 38, x.value());
        DUE.is("cost", cost, x.cost());
        DUE.is("cost", 1178, x.cost());
    }
}
