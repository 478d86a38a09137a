import java.util.Random;

/** Runs of 512 calls on fresh objects, each answer compared with the plain model's. */
public final class RandomRunsTest {
    private static final int CALLS = 512;

    private final Random random;
    private final ChainExchange x = new ChainExchange();
    private final PlainModel model = new PlainModel();
    private final int mostMembers;
    private final int mostWeight;
    private final String run;
    private int count = 0;
    private int calls = 0;

    private RandomRunsTest(long seed, int mostMembers, int mostWeight) {
        this.random = new Random(seed);
        this.mostMembers = mostMembers;
        this.mostWeight = mostWeight;
        this.run = "seed " + seed + ": ";
    }

    public static void main(String[] args) {
        for (int seed = 0; seed < 600; seed++) {
            // Few weights make many exchanges of equal weight.
            int mostWeight = seed % 3 == 0 ? 100 : seed % 3;
            new RandomRunsTest(seed, 3 + seed % 4, mostWeight).play();
        }
        for (int seed = 1000; seed < 1150; seed++) {
            new RandomRunsTest(seed, 8, seed % 2 == 0 ? 3 : 1).planEight();
        }
        Checks.finish();
    }

    private void play() {
        while (calls < CALLS) {
            int kind = random.nextInt(100);
            if (kind < 40) {
                change(kind);
            } else if (kind < 75) {
                planAndLook(kind);
            } else {
                proposeAndJudge(kind);
            }
        }
    }

    private void change(int kind) {
        boolean on = random.nextInt(3) == 0;
        if (kind < 3 && count < mostMembers) {
            join(random.nextInt(3) == 0);
        } else if (kind < 6) {
            joinWrongly();
        } else if (kind < 14) {
            int u = member();
            int v = member();
            same("bar(" + u + ", " + v + ", " + on + ")", () -> x.bar(u, v, on), () -> model.bar(u, v, on));
        } else if (kind < 24) {
            int m = member();
            same("stay(" + m + ", " + !on + ")", () -> x.stay(m, !on), () -> model.stay(m, !on));
        } else if (kind < 30) {
            same("members(" + on + ")", () -> x.members(on), () -> model.members(on));
        } else if (kind < 38) {
            int u = member();
            int v = member();
            same("can(" + u + ", " + v + ")", () -> x.can(u, v), () -> model.can(u, v));
        } else {
            same("done()", () -> x.done(), () -> model.done());
        }
    }

    private void join(boolean alone) {
        int patient = random.nextInt(4);
        int donor = random.nextInt(4) & random.nextInt(4);
        int weight = 1 + random.nextInt(mostWeight);
        count++;
        if (alone) {
            same("altruist(" + donor + ")", () -> x.altruist(donor), () -> model.altruist(donor));
        } else {
            same("pair(" + patient + ", " + donor + ", " + weight + ")",
                    () -> x.pair(patient, donor, weight), () -> model.pair(patient, donor, weight));
        }
    }

    private void joinWrongly() {
        int blood = random.nextBoolean() ? -1 : 4;
        same("altruist(" + blood + ")", () -> x.altruist(blood), () -> model.altruist(blood));
        same("pair(0, " + blood + ", 1)", () -> x.pair(0, blood, 1), () -> model.pair(0, blood, 1));
        same("pair(" + blood + ", 0, 1)", () -> x.pair(blood, 0, 1), () -> model.pair(blood, 0, 1));
    }

    private void planAndLook(int kind) {
        int m = member();
        boolean chains = random.nextBoolean();
        if (kind < 55) {
            planSomehow();
        } else if (kind < 60) {
            same("giver(" + m + ")", () -> x.giver(m), () -> model.giver(m));
        } else if (kind < 66) {
            same("parts(" + chains + ")", () -> x.parts(chains), () -> model.parts(chains));
        } else if (kind < 73) {
            same("length(" + m + ")", () -> x.length(m), () -> model.length(m));
        } else {
            same("carry()", () -> x.carry(), () -> model.carry());
        }
    }

    private void planSomehow() {
        int l = random.nextInt(6) - random.nextInt(2);
        int k = random.nextInt(6) - random.nextInt(2);
        same("plan(" + l + ", " + k + ")", () -> x.plan(l, k), () -> model.plan(l, k));
    }

    private void proposeAndJudge(int kind) {
        if (kind < 87) {
            int v = member();
            int u = random.nextInt(4) == 0 ? ChainExchange.NOBODY : member();
            same("propose(" + v + ", " + u + ")", () -> {
                x.propose(v, u);
                return "nothing";
            }, () -> {
                model.propose(v, u);
                return "nothing";
            });
        } else if (kind < 92) {
            same("adopt()", () -> {
                x.adopt();
                return "nothing";
            }, () -> {
                model.adopt();
                return "nothing";
            });
        } else {
            int l = random.nextInt(10);
            int k = random.nextInt(10);
            same("judge(" + l + ", " + k + ")", () -> x.judge(l, k), () -> model.judge(l, k));
        }
    }

    /** Eight members, bars enough to keep the model's search short, and all that a plan tells. */
    private void planEight() {
        int altruists = random.nextInt(4);
        for (int m = 0; m < 8; m++) {
            join(random.nextInt(8) < altruists);
        }
        for (int bar = 0; bar < 20; bar++) {
            int u = random.nextInt(8);
            int v = random.nextInt(8);
            same("bar(" + u + ", " + v + ", true)", () -> x.bar(u, v, true), () -> model.bar(u, v, true));
        }
        for (int round = 0; round < 3; round++) {
            int l = random.nextInt(5);
            int k = random.nextInt(5);
            same("plan(" + l + ", " + k + ")", () -> x.plan(l, k), () -> model.plan(l, k));
            lookAtAll();
        }
        same("carry()", () -> x.carry(), () -> model.carry());
        same("members(true)", () -> x.members(true), () -> model.members(true));
        same("plan(4, 4)", () -> x.plan(4, 4), () -> model.plan(4, 4));
        lookAtAll();
    }

    private void lookAtAll() {
        for (int member = 0; member < 8; member++) {
            int m = member;
            same("giver(" + m + ")", () -> x.giver(m), () -> model.giver(m));
            same("length(" + m + ")", () -> x.length(m), () -> model.length(m));
        }
        same("parts(false)", () -> x.parts(false), () -> model.parts(false));
        same("parts(true)", () -> x.parts(true), () -> model.parts(true));
    }

    /** A member as a rule, now and then a number that is none. */
    private int member() {
        return random.nextInt(30) == 0 ? random.nextInt(12) - 2 : random.nextInt(Math.max(1, count));
    }

    /** What an object answers after its 512th call is free. */
    private void same(String call, java.util.concurrent.Callable<?> got,
            java.util.concurrent.Callable<?> want) {
        calls++;
        if (calls <= CALLS) {
            Checks.due(run + call, Checks.answerOf(want), got);
        }
    }
}
