public final class Promise07FlowTest {
    public static void main(String[] args) {
        Due due = new Due();
        FlowProofs x = Nets.withArcBack();
        int[][] afterRounds = {{0, 0, 0, 0, 0}, {4, 0, 4, 0, 4}, {4, 2, 2, 2, 4}};
        for (int round = 0; round < afterRounds.length; round++) {
            for (int e = 0; e < 5; e++) {
                due.is("flow(" + e + ") after " + round, afterRounds[round][e], x.flow(e));
            }
            for (int e : new int[] {-1, 5, 40, Integer.MIN_VALUE, Integer.MAX_VALUE}) {
                due.is("flow(" + e + ")", FlowProofs.BAD, x.flow(e));
            }
            x.run(1);
        }
        FlowProofs few = new FlowProofs(3, 10);
        few.edge(0, 1, 3, 3);
        due.is("without ends", 0, few.flow(0));
        due.is("an edge that has not come", FlowProofs.BAD, few.flow(1));
        due.finish();
    }
}
