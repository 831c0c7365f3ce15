import java.lang.reflect.Array;
import java.util.List;

/** The PROGRAM done with real arrays of Java, which throw by themselves: what a RUN is held against. */
final class RealMachine {
    final int[] values = new int[6];
    final Object[] arrays = new Object[6];
    int thrown = 0;
    int where = -1;
    private long state;

    private static final class TooMuch extends RuntimeException {
        private static final long serialVersionUID = 1L;
    }

    RealMachine(List<int[]> acts, boolean[] dropped, long seed) {
        state = seed;
        int behindMaybe = 0;
        int done = 0;
        boolean doing = true;
        for (int i = 0; i < acts.size(); i++) {
            if (dropped[i]) {
                continue;
            }
            boolean within = done < behindMaybe;
            done++;
            int[] act = acts.get(i);
            if (!within && act[0] == 14) {
                behindMaybe = done + act[2];
                doing = draw() % 2 == 0;
            } else if (!within || doing) {
                thrown = attempt(act);
                if (thrown != 0) {
                    where = i;
                    return;
                }
            }
        }
    }

    private long draw() {
        state += 0x9E3779B97F4A7C15L;
        long z = state;
        z = (z ^ (z >>> 30)) * 0xBF58476D1CE4E5B9L;
        z = (z ^ (z >>> 27)) * 0x94D049BB133111EBL;
        return z ^ (z >>> 31);
    }

    private int attempt(int[] act) {
        try {
            perform(act);
            return 0;
        } catch (NullPointerException thrown) {
            return 1;
        } catch (ClassCastException thrown) {
            return 2;
        } catch (NegativeArraySizeException thrown) {
            return 3;
        } catch (ArrayStoreException thrown) {
            return 4;
        } catch (IndexOutOfBoundsException thrown) {
            return 5;
        } catch (TooMuch thrown) {
            return 7;
        }
    }

    private void perform(int[] act) {
        int a = act[1];
        int b = act[2];
        int c = act[3];
        int d = act[4];
        int e = act[5];
        switch (act[0]) {
            case 0 -> values[a] = b;
            case 1 -> values[a] = b + (int) ((draw() >>> 33) % (c - b + 1));
            case 2 -> values[a] = values[b] + values[c];
            case 3 -> values[a] = values[b] - values[c];
            case 4 -> arrays[a] = make(b, values[c]);
            case 5 -> arrays[a] = null;
            case 6 -> arrays[a] = arrays[b];
            case 7 -> arrays[a] = draw() % 2 == 0 ? arrays[b] : arrays[c];
            case 8 -> arrays[a] = copyOf(arrays[b]);
            case 9 -> write(arrays[a], b, values[c], values[d]);
            case 10 -> values[a] = read(arrays[b], c, values[d]);
            case 11 -> System.arraycopy(arrays[a], values[b], arrays[c], values[d], values[e]);
            case 12 -> {
                for (int i = values[c]; i < values[d]; i++) {
                    write(arrays[a], b, i, values[e]);
                }
            }
            case 13 -> values[a] = lengthOf(arrays[b]);
            default -> {
            }
        }
    }

    private static Object make(int lane, int many) {
        if (many > 12) {
            throw new TooMuch();
        }
        return lane == 0 ? new byte[many] : lane == 1 ? new char[many] : new int[many];
    }

    private static Object copyOf(Object array) {
        if (array instanceof byte[] bytes) {
            return bytes.clone();
        }
        return array instanceof char[] chars ? chars.clone() : ((int[]) array).clone();
    }

    private static void write(Object array, int lane, int at, int number) {
        if (lane == 0) {
            ((byte[]) array)[at] = (byte) number;
        } else if (lane == 1) {
            ((char[]) array)[at] = (char) number;
        } else {
            ((int[]) array)[at] = number;
        }
    }

    private static int read(Object array, int lane, int at) {
        return lane == 0 ? ((byte[]) array)[at] : lane == 1 ? ((char[]) array)[at] : ((int[]) array)[at];
    }

    private static int lengthOf(Object array) {
        if (array == null) {
            throw new NullPointerException();
        }
        return Array.getLength(array);
    }

    int length(int r) {
        return arrays[r] == null ? -1 : Array.getLength(arrays[r]);
    }

    int place(int r, int i) {
        if (arrays[r] == null || i < 0 || i >= length(r)) {
            return 0;
        }
        return arrays[r] instanceof char[] chars ? chars[i] : Array.getInt(arrays[r], i);
    }
}
