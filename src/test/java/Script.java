/** A program under the class, written with the names of the acts; each answers the act's number. */
final class Script {
    static final int BYTE = 0;
    static final int CHAR = 1;
    static final int INT = 2;

    final ArraySegments on = new ArraySegments();

    int set(int x, int number) {
        return on.act(0, x, number, 0, 0, 0);
    }

    int input(int x, int least, int greatest) {
        return on.act(1, x, least, greatest, 0, 0);
    }

    int add(int x, int y, int z) {
        return on.act(2, x, y, z, 0, 0);
    }

    int less(int x, int y, int z) {
        return on.act(3, x, y, z, 0, 0);
    }

    int make(int r, int lane, int x) {
        return on.act(4, r, lane, x, 0, 0);
    }

    int none(int r) {
        return on.act(5, r, 0, 0, 0, 0);
    }

    int same(int r, int s) {
        return on.act(6, r, s, 0, 0, 0);
    }

    int either(int r, int s, int t) {
        return on.act(7, r, s, t, 0, 0);
    }

    int copyOf(int r, int s) {
        return on.act(8, r, s, 0, 0, 0);
    }

    int write(int r, int lane, int x, int y) {
        return on.act(9, r, lane, x, y, 0);
    }

    int read(int x, int r, int lane, int y) {
        return on.act(10, x, r, lane, y, 0);
    }

    int copy(int r, int x, int s, int y, int z) {
        return on.act(11, r, x, s, y, z);
    }

    int fill(int r, int lane, int x, int y, int z) {
        return on.act(12, r, lane, x, y, z);
    }

    int length(int x, int r) {
        return on.act(13, x, r, 0, 0, 0);
    }

    int maybe(int many) {
        return on.act(14, 0, many, 0, 0, 0);
    }

    /** A new array of that many places, its length left in variable x. */
    int makeOf(int r, int lane, int x, int many) {
        set(x, many);
        return make(r, lane, x);
    }

    /** The array's segments: "first..behind:least..greatest", one after the other. */
    String segments(int site) {
        StringBuilder text = new StringBuilder();
        int many = on.array(site, 3);
        for (int k = 0; k < many; k++) {
            text.append(k == 0 ? "" : " ").append(on.segment(site, k, 0)).append("..").append(on.segment(site, k, 1));
            text.append(":").append(on.segment(site, k, 2)).append("..").append(on.segment(site, k, 3));
        }
        return text.toString();
    }

    String span(int x) {
        return on.variable(x, 0) + ".." + on.variable(x, 1);
    }
}
