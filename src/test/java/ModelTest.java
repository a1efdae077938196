/** Runs of calls of all kinds, each answer compared with the model's. */
public final class ModelTest {
    private static final int RUNS = 6000;

    /** An object is promised to be right for so many calls. */
    private static final int CALLS = 512;

    private static final int LOOKING_BACK = 48 * 2 + 7 + 80;

    private interface Answer {
        long make();
    }

    private final Check check;
    private final HandleHeap heap = new HandleHeap();
    private final HeapModel model = new HeapModel();
    private final int run;
    private final int longest;
    private long seed;

    private ModelTest(Check check, int run) {
        this.check = check;
        this.run = run;
        this.seed = run * 7919L + 17;
        // Short blocks use up the handles, long ones the bytes.
        this.longest = new int[] {12, 40, 120, 400, 1024}[run % 5];
    }

    /** A number 0 to n - 1, the same ones in each run of the test. */
    private int draw(int n) {
        seed = seed * 6364136223846793005L + 1442695040888963407L;
        return (int) ((seed >>> 33) % n);
    }

    private boolean oneIn(int n) {
        return draw(n) == 0;
    }

    private int length() {
        int[] edges = {0, 1025, -1, 1, 1024};
        return oneIn(40) ? edges[draw(5)] : 1 + draw(longest);
    }

    private int handle() {
        int[] edges = {-1, 48, 47, Integer.MAX_VALUE, Integer.MIN_VALUE};
        return oneIn(60) ? edges[draw(5)] : oneIn(4) ? draw(48) : draw(1 + (int) model.told(3));
    }

    private int index(int handle) {
        long bytes = handle < 0 || handle > 47 ? 0 : model.size(handle);
        return oneIn(20) ? -1 : oneIn(20) ? (int) bytes : bytes == 0 ? 0 : draw((int) bytes);
    }

    private int value() {
        return oneIn(40) ? -1 : oneIn(40) ? 256 : draw(256);
    }

    private static long answer(Answer call) {
        try {
            return call.make();
        } catch (IllegalArgumentException e) {
            return HeapModel.ARGUMENT;
        } catch (IllegalStateException e) {
            return HeapModel.STATE;
        } catch (IndexOutOfBoundsException e) {
            return HeapModel.INDEX;
        }
    }

    private static long number(boolean b) {
        return b ? 1 : 0;
    }

    private void compare(String call, Answer got, Answer want) {
        check.due("run " + run + ": " + call, answer(got), want.make());
    }

    private void change() {
        int kind = draw(23);
        int h = handle();
        boolean yes = draw(3) > 0;
        if (kind < 8) {
            int n = length();
            boolean fixed = oneIn(8);
            compare("ask " + n + " " + fixed, () -> heap.ask(n, fixed), () -> model.ask(n, fixed));
        } else if (kind < 10) {
            compare("drop " + h, () -> heap.drop(h), () -> model.drop(h));
        } else if (kind < 14) {
            int n = length();
            compare("resize " + h + " " + n, () -> number(heap.resize(h, n)), () -> model.resize(h, n));
        } else if (kind < 16) {
            boolean locks = !yes;
            compare("lock " + h + " " + locks, () -> number(heap.lock(h, locks)), () -> model.lock(h, locks));
        } else if (kind < 19) {
            compare("losable " + h + " " + yes, () -> number(heap.losable(h, yes)), () -> model.losable(h, yes));
        } else if (kind == 19) {
            compare("lose " + h, () -> number(heap.lose(h)), () -> model.lose(h));
        } else if (kind == 20) {
            compare("lift " + h, () -> heap.lift(h), () -> model.lift(h));
        } else if (kind == 21) {
            compare("slide", () -> heap.slide(), () -> model.slide());
        } else {
            int n = oneIn(20) ? -1 : draw(2 * longest);
            compare("clear " + n, () -> heap.clear(n), () -> model.clear(n));
        }
    }

    private void look() {
        int kind = draw(12);
        int h = handle();
        int i = index(h);
        if (kind < 6) {
            int v = value();
            compare("put " + h + " " + i + " " + v, () -> heap.put(h, i, v), () -> model.put(h, i, v));
        } else if (kind < 8) {
            compare("get " + h + " " + i, () -> heap.get(h, i), () -> model.get(h, i));
        } else if (kind == 8) {
            compare("where " + h, () -> heap.where(h), () -> model.where(h));
        } else if (kind == 9) {
            compare("size " + h, () -> heap.size(h), () -> model.size(h));
        } else if (kind == 10) {
            int at = draw(1026) - 1;
            compare("owner " + at, () -> heap.owner(at), () -> model.owner(at));
        } else {
            int what = draw(9) - 1;
            compare("told " + what, () -> heap.told(what), () -> model.told(what));
        }
    }

    private void lookBack() {
        for (int k = 0; k < 48; k++) {
            int h = k;
            compare("where " + h, () -> heap.where(h), () -> model.where(h));
            compare("size " + h, () -> heap.size(h), () -> model.size(h));
        }
        for (int k = 0; k < 7; k++) {
            int what = k;
            compare("told " + what, () -> heap.told(what), () -> model.told(what));
        }
        for (int k = 0; k < 80; k++) {
            int h = handle();
            int i = index(h);
            compare("get " + h + " " + i, () -> heap.get(h, i), () -> model.get(h, i));
        }
    }

    private void go() {
        int calls = 1 + draw(CALLS - LOOKING_BACK);
        for (int k = 0; k < calls; k++) {
            if (oneIn(3)) {
                look();
            } else {
                change();
            }
        }
        lookBack();
    }

    public static void main(String[] args) {
        Check check = new Check();
        for (int run = 0; run < RUNS; run++) {
            new ModelTest(check, run).go();
        }
        check.finish();
    }
}
