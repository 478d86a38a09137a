import java.util.Arrays;
import java.util.NoSuchElementException;

/** The document word by word, with no thought of speed: every exchange is tried. */
final class PlainModel {
    private static final int NOBODY = -1;

    private final boolean[] isPair = new boolean[8];
    private final boolean[] isHere = new boolean[8];
    private final int[] patient = new int[8];
    private final int[] donor = new int[8];
    private final int[] weight = new int[8];
    private final boolean[][] barred = new boolean[8][8];
    private int count = 0;
    private int[] plan = null;
    private int[] proposal = nobodyForAll();
    private int done = 0;

    private int[] bestGivers;
    private int bestWeight;

    int pair(int p, int d, int w) {
        if (p < 0 || p > 3 || d < 0 || d > 3 || w < 1 || w > 100) {
            throw new IllegalArgumentException();
        }
        return add(true, p, d, w);
    }

    int altruist(int d) {
        if (d < 0 || d > 3) {
            throw new IllegalArgumentException();
        }
        return add(false, 0, d, 0);
    }

    private int add(boolean pair, int p, int d, int w) {
        if (count == 8) {
            throw new UnsupportedOperationException();
        }
        isPair[count] = pair;
        isHere[count] = true;
        patient[count] = p;
        donor[count] = d;
        weight[count] = w;
        plan = null;
        return count++;
    }

    boolean bar(int u, int v, boolean on) {
        needMember(u);
        needMember(v);
        if (!isPair[v] || u == v) {
            throw new IllegalArgumentException();
        }
        boolean changes = barred[u][v] != on;
        barred[u][v] = on;
        plan = changes ? null : plan;
        return changes;
    }

    boolean stay(int member, boolean here) {
        needMember(member);
        boolean changes = isHere[member] != here;
        isHere[member] = here;
        plan = changes ? null : plan;
        return changes;
    }

    int members(boolean here) {
        int number = 0;
        for (int m = 0; m < count; m++) {
            number += !here || isHere[m] ? 1 : 0;
        }
        return number;
    }

    boolean can(int u, int v) {
        if (u < 0 || u >= count || v < 0 || v >= count || u == v) {
            return false;
        }
        boolean bloodFits = (donor[u] % 2 <= patient[v] % 2) && (donor[u] / 2 <= patient[v] / 2);
        return isHere[u] && isHere[v] && isPair[v] && bloodFits && !barred[u][v];
    }

    int plan(int l, int k) {
        if (l < 0 || l > 4 || k < 0 || k > 4) {
            throw new IllegalArgumentException();
        }
        bestWeight = -1;
        tryGivers(nobodyForAll(), 0, l, k);
        plan = bestGivers;
        return bestWeight;
    }

    int giver(int member) {
        needPlan();
        needMember(member);
        return plan[member];
    }

    int parts(boolean chains) {
        needPlan();
        int number = 0;
        for (int m = 0; m < count; m++) {
            number += beginsPart(plan, m) && isPair[m] != chains ? 1 : 0;
        }
        return number;
    }

    int length(int member) {
        needPlan();
        needMember(member);
        for (int m = 0; m < count; m++) {
            if (beginsPart(plan, m) && isReached(plan, m, member)) {
                return lengthFrom(plan, m);
            }
        }
        return 0;
    }

    int carry() {
        needPlan();
        int patients = 0;
        boolean[] leaves = new boolean[count];
        for (int m = 0; m < count; m++) {
            leaves[m] = length(m) > 0;
            patients += plan[m] != NOBODY ? 1 : 0;
        }
        for (int m = 0; m < count; m++) {
            isHere[m] = isHere[m] && !leaves[m];
        }
        plan = null;
        done += patients;
        return patients;
    }

    int done() {
        return done;
    }

    void propose(int v, int u) {
        needMember(v);
        if (u != NOBODY) {
            needMember(u);
        }
        proposal[v] = u;
    }

    int judge(int l, int k) {
        if (l < 0 || l > 8 || k < 0 || k > 8) {
            throw new IndexOutOfBoundsException();
        }
        for (int v = 0; v < count; v++) {
            if (proposal[v] != NOBODY && !can(proposal[v], v)) {
                throw new IllegalArgumentException();
            }
        }
        for (int v = 0; v < count; v++) {
            for (int w = v + 1; w < count; w++) {
                if (proposal[v] != NOBODY && proposal[v] == proposal[w]) {
                    throw new IllegalStateException();
                }
            }
        }
        if (!isPaid(proposal)) {
            throw new NoSuchElementException();
        }
        if (!isFit(proposal, l, k)) {
            throw new UnsupportedOperationException();
        }
        return weightOf(proposal);
    }

    void adopt() {
        needPlan();
        proposal = plan.clone();
    }

    /** Tries the givers of member v in the order of preference: of equal weights the first stays. */
    private void tryGivers(int[] givers, int v, int l, int k) {
        if (v == count) {
            if (weightOf(givers) > bestWeight && isPaid(givers) && isFit(givers, l, k)) {
                bestWeight = weightOf(givers);
                bestGivers = givers.clone();
            }
            return;
        }
        for (int u = 0; u < count; u++) {
            if (can(u, v) && receiver(givers, u) == NOBODY) {
                givers[v] = u;
                tryGivers(givers, v + 1, l, k);
                givers[v] = NOBODY;
            }
        }
        tryGivers(givers, v + 1, l, k);
    }

    private boolean isPaid(int[] givers) {
        for (int m = 0; m < count; m++) {
            if (isPair[m] && givers[m] == NOBODY && receiver(givers, m) != NOBODY) {
                return false;
            }
        }
        return true;
    }

    private boolean isFit(int[] givers, int l, int k) {
        for (int m = 0; m < count; m++) {
            if (beginsPart(givers, m) && lengthFrom(givers, m) > (isPair[m] ? l : k)) {
                return false;
            }
        }
        return true;
    }

    /** An altruist who gives, or the least member of a cycle. */
    private boolean beginsPart(int[] givers, int m) {
        if (!isPair[m]) {
            return receiver(givers, m) != NOBODY;
        }
        int at = receiver(givers, m);
        while (at != NOBODY && at > m) {
            at = receiver(givers, at);
        }
        return at == m;
    }

    private int lengthFrom(int[] givers, int first) {
        int gifts = 1;
        int at = receiver(givers, first);
        while (at != first && receiver(givers, at) != NOBODY) {
            at = receiver(givers, at);
            gifts++;
        }
        return gifts;
    }

    private boolean isReached(int[] givers, int first, int member) {
        int at = first;
        do {
            if (at == member) {
                return true;
            }
            at = receiver(givers, at);
        } while (at != NOBODY && at != first);
        return false;
    }

    private int receiver(int[] givers, int u) {
        for (int v = 0; v < count; v++) {
            if (givers[v] == u) {
                return v;
            }
        }
        return NOBODY;
    }

    private int weightOf(int[] givers) {
        int sum = 0;
        for (int m = 0; m < count; m++) {
            sum += givers[m] != NOBODY ? weight[m] : 0;
        }
        return sum;
    }

    private static int[] nobodyForAll() {
        int[] givers = new int[8];
        Arrays.fill(givers, NOBODY);
        return givers;
    }

    private void needMember(int m) {
        if (m < 0 || m >= count) {
            throw new IndexOutOfBoundsException();
        }
    }

    private void needPlan() {
        if (plan == null) {
            throw new IllegalStateException();
        }
    }
}
