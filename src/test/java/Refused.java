import java.util.List;
import java.util.function.Predicate;
import java.util.function.ToIntFunction;

/** Makes a call that has to be refused, in many states, and looks that nothing has changed by it. */
final class Refused {
    private Refused() {
    }

    static void bad(Due due, String call, ToIntFunction<FlowProofs> refused) {
        bad(due, State.all(), call, refused);
    }

    static void bad(Due due, List<State> states, String call, ToIntFunction<FlowProofs> refused) {
        for (State state : states) {
            FlowProofs x = state.make();
            due.is(state.name() + ": " + call, FlowProofs.BAD, refused.applyAsInt(x));
            nothingChanged(due, state, call, x);
        }
    }

    static void no(Due due, String call, Predicate<FlowProofs> refused) {
        for (State state : State.all()) {
            FlowProofs x = state.make();
            due.is(state.name() + ": " + call, false, refused.test(x));
            nothingChanged(due, state, call, x);
        }
    }

    private static void nothingChanged(Due due, State state, String call, FlowProofs x) {
        String want = Answers.nowAndLater(state.make());
        due.same(state.name() + ": what is answered after " + call, want, Answers.nowAndLater(x));
    }
}
