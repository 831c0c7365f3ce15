import java.util.List;
import java.util.Map;
import java.util.TreeMap;
import java.util.TreeSet;

/** The rules of '2 FACTS' a second time, in another form, place by place and number by number. */
final class PlainFacts {
    record Span(long least, long greatest) {
        Span join(Span other) {
            return other == null ? this : new Span(Math.min(least, other.least), Math.max(greatest, other.greatest));
        }

        Span cut(long low, long high) {
            Span left = new Span(Math.max(least, low), Math.min(greatest, high));
            return left.least > left.greatest ? null : left;
        }

        boolean isOne() {
            return least == greatest;
        }

        boolean has(long number) {
            return number >= least && number <= greatest;
        }
    }

    static final class Cells {
        final TreeSet<Integer> lanes = new TreeSet<>();
        Span length;
        final Span[] places = new Span[12];

        Cells copy() {
            Cells other = new Cells();
            other.lanes.addAll(lanes);
            other.length = length;
            System.arraycopy(places, 0, other.places, 0, 12);
            return other;
        }

        void join(Cells other) {
            lanes.addAll(other.lanes);
            length = other.length.join(length);
            for (int p = 0; p < 12; p++) {
                places[p] = other.places[p].join(places[p]);
            }
        }
    }

    /** Site numbers; NULL is -1. */
    static final class View {
        final Span[] variables = new Span[6];
        final List<TreeSet<Integer>> references = new java.util.ArrayList<>();
        final Map<Integer, Cells> arrays = new TreeMap<>();

        View() {
            for (int k = 0; k < 6; k++) {
                variables[k] = new Span(0, 0);
                references.add(new TreeSet<>(List.of(-1)));
            }
        }

        View copy() {
            View other = new View();
            for (int k = 0; k < 6; k++) {
                other.variables[k] = variables[k];
                other.references.set(k, new TreeSet<>(references.get(k)));
            }
            arrays.forEach((site, cells) -> other.arrays.put(site, cells.copy()));
            return other;
        }

        void join(View other) {
            for (int k = 0; k < 6; k++) {
                variables[k] = variables[k].join(other.variables[k]);
                references.get(k).addAll(other.references.get(k));
            }
            other.arrays.forEach((site, cells) -> {
                if (arrays.containsKey(site)) {
                    arrays.get(site).join(cells);
                } else {
                    arrays.put(site, cells.copy());
                }
            });
        }

        TreeSet<Integer> sites(int r) {
            TreeSet<Integer> found = new TreeSet<>(references.get(r));
            found.remove(-1);
            return found;
        }

        boolean maybeNull(int r) {
            return references.get(r).contains(-1);
        }
    }

    private static final class Dead extends RuntimeException {
        private static final long serialVersionUID = 1L;
    }

    private static final Span[] LANES = {new Span(-128, 127), new Span(0, 65535),
        new Span(Integer.MIN_VALUE, Integer.MAX_VALUE)};

    /** null: not REACHED. */
    View view = new View();
    final boolean[] reached;
    final int[] thrown;

    PlainFacts(List<int[]> acts, boolean[] dropped) {
        reached = new boolean[acts.size()];
        thrown = new int[acts.size()];
        List<Integer> kept = new java.util.ArrayList<>();
        for (int i = 0; i < acts.size(); i++) {
            if (!dropped[i]) {
                kept.add(i);
            }
        }
        int k = 0;
        while (k < kept.size()) {
            int[] act = acts.get(kept.get(k));
            if (act[0] != 14) {
                step(kept.get(k), act);
                k++;
                continue;
            }
            reached[kept.get(k)] = view != null;
            View ahead = view == null ? null : view.copy();
            int behind = Math.min(kept.size(), k + 1 + act[2]);
            for (k++; k < behind; k++) {
                step(kept.get(k), acts.get(kept.get(k)));
            }
            if (view == null) {
                view = ahead;
            } else {
                view.join(ahead);
            }
        }
    }

    private void step(int i, int[] act) {
        if (view == null) {
            return;
        }
        reached[i] = true;
        try {
            perform(i, act);
        } catch (Dead dead) {
            view = null;
        }
    }

    private Span number(int x) {
        return view.variables[x];
    }

    private void may(int i, int which, boolean does) {
        if (does) {
            thrown[i] |= 1 << which;
        }
    }

    private void cut(int x, long low, long high) {
        view.variables[x] = number(x).cut(low, high);
        if (view.variables[x] == null) {
            throw new Dead();
        }
    }

    private void use(int r) {
        view.references.get(r).remove(-1);
        if (view.references.get(r).isEmpty()) {
            throw new Dead();
        }
    }

    private static Span outcome(long least, long greatest) {
        boolean fits = least >= Integer.MIN_VALUE && greatest <= Integer.MAX_VALUE;
        return fits ? new Span(least, greatest) : LANES[2];
    }

    private Span cast(int lane, int x) {
        Span all = LANES[lane];
        return all.has(number(x).least) && all.has(number(x).greatest) ? number(x) : all;
    }

    private void point(int r, int site) {
        view.references.set(r, new TreeSet<>(List.of(site)));
    }

    private void perform(int i, int[] act) {
        int a = act[1];
        int b = act[2];
        int c = act[3];
        switch (act[0]) {
            case 0 -> view.variables[a] = new Span(b, b);
            case 1 -> view.variables[a] = new Span(b, c);
            case 2 -> view.variables[a] = outcome(number(b).least + number(c).least,
                number(b).greatest + number(c).greatest);
            case 3 -> view.variables[a] = outcome(number(b).least - number(c).greatest,
                number(b).greatest - number(c).least);
            case 4 -> make(i, a, b, c);
            case 5 -> point(a, -1);
            case 6 -> view.references.set(a, new TreeSet<>(view.references.get(b)));
            case 7 -> {
                TreeSet<Integer> both = new TreeSet<>(view.references.get(b));
                both.addAll(view.references.get(c));
                view.references.set(a, both);
            }
            case 8 -> duplicate(i, a, b);
            case 9 -> write(i, a, b, c, act[4]);
            case 10 -> read(i, a, b, c, act[4]);
            case 11 -> copy(i, act);
            case 12 -> fill(i, act);
            case 13 -> measure(i, a, b);
            default -> {
            }
        }
    }

    private void make(int i, int r, int lane, int x) {
        may(i, 3, number(x).least < 0);
        may(i, 7, number(x).greatest > 12);
        cut(x, 0, 12);
        Cells cells = new Cells();
        cells.lanes.add(lane);
        cells.length = number(x);
        java.util.Arrays.fill(cells.places, new Span(0, 0));
        view.arrays.put(i, cells);
        point(r, i);
    }

    private void duplicate(int i, int r, int s) {
        may(i, 1, view.maybeNull(s));
        use(s);
        Cells all = null;
        for (int site : view.sites(s)) {
            if (all == null) {
                all = view.arrays.get(site).copy();
            } else {
                all.join(view.arrays.get(site));
            }
        }
        view.arrays.put(i, all);
        point(r, i);
    }

    private void measure(int i, int x, int r) {
        may(i, 1, view.maybeNull(r));
        use(r);
        Span all = null;
        for (int site : view.sites(r)) {
            all = view.arrays.get(site).length.join(all);
        }
        view.variables[x] = all;
    }

    private void lookAtPlace(int i, int r, int lane, int x) {
        may(i, 1, view.maybeNull(r));
        may(i, 5, number(x).least < 0);
        long longest = 0;
        for (int site : view.sites(r)) {
            Cells cells = view.arrays.get(site);
            may(i, 2, cells.lanes.stream().anyMatch(l -> l != lane));
            may(i, 5, !(number(x).greatest < cells.length.least));
            if (cells.lanes.contains(lane)) {
                longest = Math.max(longest, cells.length.greatest);
            } else {
                view.references.get(r).remove(site);
            }
        }
        use(r);
        cut(x, 0, longest - 1);
    }

    private void write(int i, int r, int lane, int x, int y) {
        lookAtPlace(i, r, lane, x);
        Span put = cast(lane, y);
        boolean strong = view.sites(r).size() == 1 && number(x).isOne();
        for (int site : view.sites(r)) {
            Cells cells = view.arrays.get(site);
            for (int p = 0; p < 12; p++) {
                if (number(x).has(p) && p < cells.length.greatest) {
                    cells.places[p] = strong ? put : cells.places[p].join(put);
                }
            }
        }
    }

    private void read(int i, int x, int r, int lane, int y) {
        lookAtPlace(i, r, lane, y);
        view.variables[x] = placesOf(r, number(y));
    }

    /** null: there are none. */
    private Span placesOf(int r, Span where) {
        Span all = null;
        for (int site : view.sites(r)) {
            Cells cells = view.arrays.get(site);
            for (int p = 0; p < 12; p++) {
                if (where.has(p) && p < cells.length.greatest) {
                    all = cells.places[p].join(all);
                }
            }
        }
        return all;
    }

    private void copy(int i, int[] act) {
        int r = act[1];
        int x = act[2];
        int s = act[3];
        int y = act[4];
        int z = act[5];
        copyThrows(i, act);
        use(r);
        use(s);
        cut(x, 0, Integer.MAX_VALUE);
        cut(y, 0, Integer.MAX_VALUE);
        cut(z, 0, Integer.MAX_VALUE);
        boolean numbers = number(x).isOne() && number(y).isOne() && number(z).isOne();
        if (numbers && view.sites(r).size() == 1 && view.sites(s).size() == 1) {
            Span[] from = view.arrays.get(view.sites(r).first()).places.clone();
            Span[] to = view.arrays.get(view.sites(s).first()).places;
            for (long k = 0; k < 12 && k < number(z).least; k++) {
                if (number(x).least + k < 12 && number(y).least + k < 12) {
                    to[(int) (number(y).least + k)] = from[(int) (number(x).least + k)];
                }
            }
            return;
        }
        if (number(z).greatest == 0) {
            return;
        }
        Span all = placesOf(r, new Span(number(x).least, number(x).greatest + number(z).greatest - 1));
        Span where = new Span(number(y).least, number(y).greatest + number(z).greatest - 1);
        for (int site : view.sites(s)) {
            Cells cells = view.arrays.get(site);
            for (int p = 0; p < 12; p++) {
                if (where.has(p) && p < cells.length.greatest) {
                    cells.places[p] = cells.places[p].join(all);
                }
            }
        }
    }

    private void copyThrows(int i, int[] act) {
        Span x = number(act[2]);
        Span y = number(act[4]);
        Span z = number(act[5]);
        may(i, 1, view.maybeNull(act[1]) || view.maybeNull(act[3]));
        may(i, 5, x.least < 0 || y.least < 0 || z.least < 0);
        for (int one : view.sites(act[1])) {
            may(i, 5, x.greatest + z.greatest > view.arrays.get(one).length.least);
            for (int other : view.sites(act[3])) {
                for (int lane : view.arrays.get(one).lanes) {
                    may(i, 4, view.arrays.get(other).lanes.stream().anyMatch(l -> l != lane));
                }
            }
        }
        for (int other : view.sites(act[3])) {
            may(i, 5, y.greatest + z.greatest > view.arrays.get(other).length.least);
        }
    }

    private void fill(int i, int[] act) {
        int r = act[1];
        int lane = act[2];
        Span x = number(act[3]);
        Span y = number(act[4]);
        boolean writes = x.least < y.greatest;
        may(i, 1, writes && view.maybeNull(r));
        may(i, 5, writes && x.least < 0);
        boolean one = view.sites(r).size() == 1;
        for (int site : view.sites(r)) {
            Cells cells = view.arrays.get(site);
            may(i, 2, writes && cells.lanes.stream().anyMatch(l -> l != lane));
            may(i, 5, writes && y.greatest > cells.length.least);
            if (!cells.lanes.contains(lane)) {
                continue;
            }
            for (int p = 0; p < 12 && p < cells.length.greatest; p++) {
                if (one && p >= x.greatest && p < y.least) {
                    cells.places[p] = cast(lane, act[5]);
                } else if (p >= x.least && p < y.greatest) {
                    cells.places[p] = cells.places[p].join(cast(lane, act[5]));
                }
            }
        }
    }
}
