import java.util.ArrayList;
import java.util.List;
import java.util.Random;

/** Many programs: every answer against the two models, and every run against the facts. */
public final class ModelsTest {
    private static final int PROGRAMS = 20000;
    private final Random random;
    private final ArraySegments on = new ArraySegments();
    private final List<int[]> acts = new ArrayList<>();
    private final boolean[] dropped = new boolean[40];
    private String name = "";
    private static final int[] seen = new int[8];
    private static int ended = 0;

    private ModelsTest(long seed) {
        random = new Random(seed);
        name = "program " + seed + ": ";
    }

    public static void main(String[] args) {
        for (int seed = 0; seed < PROGRAMS; seed++) {
            ModelsTest test = new ModelsTest(seed);
            test.write();
            test.compareFacts();
            test.compareRuns();
            if (seed % 3 == 0) {
                test.dropSome();
                test.compareFacts();
                test.compareRuns();
            }
        }
        for (int thrown : new int[] {0, 1, 2, 3, 4, 5, 7}) {
            Check.isTrue("throw " + thrown + " was seen often", seen[thrown] > 500);
        }
        Check.isTrue("the end was REACHED often", ended > PROGRAMS / 3);
        Check.finish();
    }

    private void write() {
        int many = 1 + random.nextInt(40);
        for (int x = 0; x < 6 && acts.size() < many; x++) {
            add(random.nextBoolean() ? new int[] {0, x, small(), 0, 0, 0} : inputAct(x));
        }
        for (int r = 0; r < 3 && acts.size() < many; r++) {
            add(new int[] {4, r, random.nextInt(4) == 0 ? lane() : 2, small6(), 0, 0});
        }
        while (acts.size() < many) {
            add(someAct());
        }
    }

    private void add(int[] act) {
        int got = on.act(act[0], act[1], act[2], act[3], act[4], act[5]);
        Check.due(name + "act", got, acts.size());
        acts.add(act);
    }

    private int[] someAct() {
        int kind = random.nextInt(15);
        switch (kind) {
            case 0:
                return new int[] {0, small6(), random.nextInt(20) == 0 ? number() : small(), 9, 9, 9};
            case 1:
                return inputAct(small6());
            case 9:
                return new int[] {9, few(), random.nextInt(5) == 0 ? lane() : 2, small6(), small6(), -1};
            case 10:
                return new int[] {10, small6(), few(), random.nextInt(5) == 0 ? lane() : 2, small6(), -1};
            case 12:
                return new int[] {12, few(), random.nextInt(5) == 0 ? lane() : 2, small6(), small6(), small6()};
            case 4:
                return new int[] {4, few(), random.nextInt(4) == 0 ? lane() : 2, small6(), 77, 77};
            case 14:
                return new int[] {14, -1, 1 + random.nextInt(10), 0, 0, 0};
            case 11:
                return new int[] {11, few(), small6(), few(), small6(), small6()};
            case 13:
                return new int[] {13, small6(), few(), 0, 0, 0};
            default:
                return new int[] {kind, few(), few(), few(), small6(), small6()};
        }
    }

    private int[] inputAct(int x) {
        if (random.nextInt(20) == 0) {
            int one = number();
            int two = number();
            return new int[] {1, x, Math.min(one, two), Math.max(one, two), 0, 0};
        }
        int low = small();
        return new int[] {1, x, low, low + random.nextInt(4), 0, 0};
    }

    private int few() {
        return random.nextInt(4) == 0 ? random.nextInt(6) : random.nextInt(3);
    }

    private int small6() {
        return random.nextInt(6);
    }

    private int lane() {
        return random.nextInt(3);
    }

    private int small() {
        return random.nextInt(10) == 0 ? random.nextInt(20) - 5 : random.nextInt(7);
    }

    private int number() {
        return random.nextInt(2000001) - 1000000;
    }

    private void dropSome() {
        for (int i = 0; i < acts.size(); i++) {
            if (random.nextInt(4) == 0) {
                Check.due(name + "drop", on.drop(i), 1);
                dropped[i] = true;
            }
        }
    }

    private void compareFacts() {
        PlainFacts model = new PlainFacts(acts, dropped);
        int reached = 0;
        int throwing = 0;
        int kept = 0;
        for (int i = 0; i < acts.size(); i++) {
            Check.due(name + "reached " + i, on.reached(i), model.reached[i] ? 1 : 0);
            Check.due(name + "throwsAt " + i, on.throwsAt(i), model.thrown[i]);
            reached += model.reached[i] ? 1 : 0;
            throwing += model.thrown[i] != 0 ? 1 : 0;
            kept += dropped[i] ? 0 : 1;
        }
        Check.due(name + "ends", on.ends(), model.view == null ? 0 : 1);
        Check.due(name + "told 0", on.told(0), acts.size());
        Check.due(name + "told 1", on.told(1), kept);
        Check.due(name + "told 2", on.told(2), reached);
        Check.due(name + "told 3", on.told(3), throwing);
        Check.due(name + "told 4", on.told(4), model.view == null ? 0 : model.view.arrays.size());
        ended += on.ends();
        for (int k = 0; k < 6; k++) {
            compareVariable(k, model.view);
            compareReference(k, model.view);
        }
        for (int i = 0; i < acts.size(); i++) {
            compareArray(i, model.view);
        }
    }

    private void compareVariable(int x, PlainFacts.View view) {
        Check.due(name + "least " + x, on.variable(x, 0), view == null ? -3 : view.variables[x].least());
        Check.due(name + "status", on.status(), view == null ? -3 : 0);
        Check.due(name + "greatest " + x, on.variable(x, 1), view == null ? -3 : view.variables[x].greatest());
    }

    private void compareReference(int r, PlainFacts.View view) {
        if (view == null) {
            Check.due(name + "reference " + r, on.reference(r), -3);
            Check.due(name + "means " + r, on.means(r, 0), -3);
            return;
        }
        int due = 2 * view.sites(r).size() + (view.maybeNull(r) ? 1 : 0);
        Check.due(name + "reference " + r, on.reference(r), due);
        for (int i = 0; i < acts.size(); i++) {
            Check.due(name + "means " + r + " " + i, on.means(r, i), view.sites(r).contains(i) ? 1 : 0);
        }
    }

    private void compareArray(int i, PlainFacts.View view) {
        PlainFacts.Cells cells = view == null ? null : view.arrays.get(i);
        if (cells == null) {
            int due = view == null ? -3 : -1;
            Check.due(name + "array " + i, on.array(i, 3), due);
            Check.due(name + "segment " + i, on.segment(i, 0, 0), due);
            Check.due(name + "status", on.status(), due);
            return;
        }
        int lanes = 0;
        for (int lane : cells.lanes) {
            lanes |= 1 << lane;
        }
        Check.due(name + "lanes " + i, on.array(i, 0), lanes);
        Check.due(name + "shortest " + i, on.array(i, 1), cells.length.least());
        Check.due(name + "longest " + i, on.array(i, 2), cells.length.greatest());
        int k = 0;
        int sorted = 1;
        int first = 0;
        int many = (int) cells.length.greatest();
        for (int p = 1; p <= many; p++) {
            if (p < many && cells.places[p - 1].greatest() > cells.places[p].least()) {
                sorted = 0;
            }
            if (p == many || !cells.places[p].equals(cells.places[p - 1])) {
                Check.due(name + "first " + i, on.segment(i, k, 0), first);
                Check.due(name + "behind " + i, on.segment(i, k, 1), p);
                Check.due(name + "least " + i, on.segment(i, k, 2), cells.places[first].least());
                Check.due(name + "greatest " + i, on.segment(i, k, 3), cells.places[first].greatest());
                k++;
                first = p;
            }
        }
        Check.due(name + "segments " + i, on.array(i, 3), k);
        Check.due(name + "no segment " + i, on.segment(i, k, 0), -2);
        Check.due(name + "sorted " + i, on.array(i, 4), sorted);
    }

    private void compareRuns() {
        for (int k = 0; k < 6; k++) {
            long seed = random.nextLong();
            RealMachine real = new RealMachine(acts, dropped, seed);
            seen[real.thrown]++;
            if (k % 2 == 0) {
                Check.due(name + "run " + seed, on.run(seed), real.thrown);
            } else {
                Check.due(name + "holds " + seed, on.holds(seed), 1);
            }
            Check.due(name + "where", on.where(), real.where);
            compareBehind(real);
        }
    }

    private void compareBehind(RealMachine real) {
        for (int k = 0; k < 6; k++) {
            Check.due(name + "value " + k, on.value(k), real.values[k]);
            Check.due(name + "length " + k, on.length(k), real.length(k));
            for (int p = -1; p <= 12; p++) {
                Check.due(name + "place " + k + " " + p, on.place(k, p), real.place(k, p));
            }
            for (int j = 0; j < 6; j++) {
                Check.due(name + "same " + k + " " + j, on.same(k, j), real.arrays[k] == real.arrays[j] ? 1 : 0);
            }
        }
    }
}
