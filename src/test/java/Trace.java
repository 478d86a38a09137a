import java.util.concurrent.Callable;

/**
 * All that an object tells, as a text: objects in one state tell the same. The object is used up
 * by it, in some 300 calls.
 */
final class Trace {
    private final ChainExchange x;
    private final StringBuilder text = new StringBuilder();

    private Trace(ChainExchange x) {
        this.x = x;
    }

    static String of(ChainExchange x) {
        Trace trace = new Trace(x);
        trace.tellMembers();
        trace.tellPlan();
        trace.tellProposal();
        trace.tellWhatIsDone();
        trace.tellWhoCanGiveOfAll();
        trace.tellNewMember();
        return trace.text.toString();
    }

    private void tellMembers() {
        tell(() -> x.members(false));
        tell(() -> x.members(true));
        tell(() -> x.done());
        tellWhoCanGive();
    }

    private void tellWhoCanGive() {
        for (int pair = 0; pair < 64; pair++) {
            int u = pair / 8;
            int v = pair % 8;
            tell(() -> x.can(u, v));
        }
    }

    private void tellPlan() {
        tell(() -> x.parts(false));
        tell(() -> x.parts(true));
        for (int member = 0; member < 8; member++) {
            int m = member;
            tell(() -> x.giver(m));
            tell(() -> x.length(m));
        }
    }

    /** Taken apart from the last member on, so that a wrong gift to a lesser one hides the least. */
    private void tellProposal() {
        for (int member = 7; member >= 0; member--) {
            int m = member;
            tell(() -> x.judge(8, 8));
            tell(() -> {
                x.propose(m, ChainExchange.NOBODY);
                return "proposed";
            });
        }
        tell(() -> {
            x.adopt();
            return "adopted";
        });
        tell(() -> x.judge(4, 4));
    }

    private void tellWhatIsDone() {
        tell(() -> x.carry());
        tell(() -> x.done());
        tell(() -> x.members(true));
    }

    private void tellWhoCanGiveOfAll() {
        for (int member = 0; member < 8; member++) {
            int m = member;
            tell(() -> x.stay(m, true));
        }
        tellWhoCanGive();
        tell(() -> x.plan(4, 4));
        tellPlan();
    }

    private void tellNewMember() {
        tell(() -> x.altruist(0));
        tell(() -> x.members(false));
    }

    private void tell(Callable<?> call) {
        text.append(Checks.answerOf(call)).append(' ');
    }
}
