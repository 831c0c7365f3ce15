/** A program under the class, written with the names of the acts; each answers the act's number. */
final class Script {
    static final int BYTE = 0;
    static final int CHAR = 1;
    static final int INT = 2;

    final ArraySegments on = new ArraySegments();

    /** A script that grew too long would test less than it seems to: that is told as a fault. */
    private int act(int kind, int a, int b, int c, int d, int e) {
        int number = on.act(kind, a, b, c, d, e);
        Check.isTrue("the script has at most forty acts", number != ArraySegments.FULL);
        return number;
    }

    int set(int x, int number) {
        return act(0, x, number, 0, 0, 0);
    }

    int input(int x, int least, int greatest) {
        return act(1, x, least, greatest, 0, 0);
    }

    int add(int x, int y, int z) {
        return act(2, x, y, z, 0, 0);
    }

    int less(int x, int y, int z) {
        return act(3, x, y, z, 0, 0);
    }

    int make(int r, int lane, int x) {
        return act(4, r, lane, x, 0, 0);
    }

    int none(int r) {
        return act(5, r, 0, 0, 0, 0);
    }

    int same(int r, int s) {
        return act(6, r, s, 0, 0, 0);
    }

    int either(int r, int s, int t) {
        return act(7, r, s, t, 0, 0);
    }

    int copyOf(int r, int s) {
        return act(8, r, s, 0, 0, 0);
    }

    int write(int r, int lane, int x, int y) {
        return act(9, r, lane, x, y, 0);
    }

    int read(int x, int r, int lane, int y) {
        return act(10, x, r, lane, y, 0);
    }

    int copy(int r, int x, int s, int y, int z) {
        return act(11, r, x, s, y, z);
    }

    int fill(int r, int lane, int x, int y, int z) {
        return act(12, r, lane, x, y, z);
    }

    int length(int x, int r) {
        return act(13, x, r, 0, 0, 0);
    }

    int maybe(int many) {
        return act(14, 0, many, 0, 0, 0);
    }

    /** A new array of that many places, its length left in variable x. */
    int makeOf(int r, int lane, int x, int many) {
        set(x, many);
        return make(r, lane, x);
    }

    /** The number comes to that place; variables 4 and 5 are used for it. */
    int put(int r, int lane, int at, int number) {
        set(4, at);
        set(5, number);
        return write(r, lane, 4, 5);
    }

    /** Variable x is the greatest int, which no SET can give: 524287 * 4096 + 4095; y is used for it. */
    void setGreatest(int x, int y) {
        set(x, 524287);
        doubleIt(x, 12);
        set(y, 4095);
        add(x, x, y);
    }

    /** Variable x is the least int: -524288 * 4096. */
    void setLeast(int x) {
        set(x, -524288);
        doubleIt(x, 12);
    }

    private void doubleIt(int x, int times) {
        for (int k = 0; k < times; k++) {
            add(x, x, x);
        }
    }

    /** What the latest run left in an array: "1 2 3"; "null", if there is none. */
    String places(int r) {
        if (on.length(r) < 0) {
            return "null";
        }
        StringBuilder text = new StringBuilder();
        for (int p = 0; p < on.length(r); p++) {
            text.append(p == 0 ? "" : " ").append(on.place(r, p));
        }
        return text.toString();
    }

    /** The array's segments: "first..behind:least..greatest", one after the other. */
    String segments(int site) {
        StringBuilder text = new StringBuilder();
        int many = on.array(site, 3);
        for (int k = 0; k < many; k++) {
            text.append(k == 0 ? "" : " ").append(on.segment(site, k, 0)).append("..").append(on.segment(site, k, 1));
            text.append(":").append(on.segment(site, k, 2)).append("..").append(on.segment(site, k, 3));
        }
        return text.toString();
    }

    String span(int x) {
        return on.variable(x, 0) + ".." + on.variable(x, 1);
    }
}
