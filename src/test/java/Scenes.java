/** Objects that several tests begin with. */
final class Scenes {
    private static final int NOBODY = ChainExchange.NOBODY;

    private Scenes() {
    }

    /** As many pairs as told, all of blood 0 and weight 1: each can give to each other. */
    static ChainExchange alike(int size) {
        ChainExchange x = new ChainExchange();
        for (int member = 0; member < size; member++) {
            x.pair(0, 0, 1);
        }
        return x;
    }

    /** Pairs with weights 10, 11, .. of which each can give to the next alone, the last to the first. */
    static ChainExchange ring(int size) {
        ChainExchange x = new ChainExchange();
        for (int member = 0; member < size; member++) {
            x.pair(0, 0, 10 + member);
        }
        for (int u = 0; u < size; u++) {
            for (int v = 0; v < size; v++) {
                if (u != v && v != (u + 1) % size) {
                    x.bar(u, v, true);
                }
            }
        }
        return x;
    }

    /** An altruist, 0, and pairs 1, 2, .. so heavy, each given to by the member before it alone. */
    static ChainExchange line(int pairs) {
        ChainExchange x = new ChainExchange();
        x.altruist(0);
        for (int member = 1; member <= pairs; member++) {
            x.pair(0, 0, member);
        }
        for (int u = 0; u <= pairs; u++) {
            for (int v = 1; v <= pairs; v++) {
                if (u != v && v != u + 1) {
                    x.bar(u, v, true);
                }
            }
        }
        return x;
    }

    /** Altruists 0 and 1, then pairs with weights 2 .. 7: all of blood 0. */
    static ChainExchange eight() {
        ChainExchange x = new ChainExchange();
        x.altruist(0);
        x.altruist(0);
        for (int member = 2; member < 8; member++) {
            x.pair(0, 0, member);
        }
        return x;
    }

    static void proposeAll(ChainExchange x, int... givers) {
        for (int member = 0; member < givers.length; member++) {
            x.propose(member, givers[member]);
        }
    }

    /**
     * Six members of whom 0 and 1 are done and gone and 5 is barred from 3; a plan stands (2 and 3
     * give to one another), and a proposal that is an exchange (4 to 3 to 2).
     */
    static ChainExchange busy() {
        ChainExchange x = alike(2);
        x.plan(2, 0);
        x.carry();
        x.pair(1, 0, 20);
        x.pair(0, 1, 30);
        x.altruist(0);
        x.altruist(0);
        x.bar(5, 3, true);
        proposeAll(x, NOBODY, NOBODY, 3, 4);
        x.plan(2, 0);
        return x;
    }

    /** As busy, with eight members. */
    static ChainExchange busyAndFull() {
        ChainExchange x = busy();
        x.pair(3, 3, 7);
        x.altruist(3);
        x.plan(2, 0);
        return x;
    }

    /** As busy, with no plan. */
    static ChainExchange busyWithoutPlan() {
        ChainExchange x = busy();
        x.stay(4, false);
        x.stay(4, true);
        return x;
    }
}
