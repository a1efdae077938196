/**
 * A method or more a promise: ordinary inputs, the edges that the document names, and wrong inputs. No
 * object gets more than 512 calls, since none is promised to be right beyond that.
 */
public final class PromiseTest {
    private static final int NONE = HandleHeap.NONE;
    private static final int EMPTY = HandleHeap.EMPTY;
    private static final int[] NO_HANDLES = {-1, 48, Integer.MIN_VALUE, Integer.MAX_VALUE};

    private static final Check CHECK = new Check();

    /** Blocks of these lengths behind one another, with handles from 0 on. */
    private static HandleHeap heapOf(int... lengths) {
        HandleHeap heap = new HandleHeap();
        for (int h = 0; h < lengths.length; h++) {
            CHECK.due("heapOf: ask " + lengths[h], heap.ask(lengths[h], false), h);
        }
        return heap;
    }

    private static void told(String when, HandleHeap heap, int... want) {
        StringBuilder got = new StringBuilder();
        StringBuilder due = new StringBuilder();
        for (int what = 0; what < 7; what++) {
            got.append(heap.told(what)).append(' ');
            due.append(want[what]).append(' ');
        }
        CHECK.due(when + ": told", got.toString(), due.toString());
    }

    private static void wheres(String when, HandleHeap heap, int... want) {
        StringBuilder got = new StringBuilder();
        StringBuilder due = new StringBuilder();
        for (int h = 0; h < want.length; h++) {
            got.append(heap.where(h)).append(' ');
            due.append(want[h]).append(' ');
        }
        CHECK.due(when + ": where", got.toString(), due.toString());
    }

    private static void fill(HandleHeap heap, int handle, int first) {
        for (int i = 0; i < heap.size(handle); i++) {
            heap.put(handle, i, (first + i) % 256);
        }
    }

    /** Bytes i from..to-1 are as fill left them. */
    private static void filled(String when, HandleHeap heap, int handle, int first, int from, int to) {
        for (int i = from; i < to; i++) {
            CHECK.due(when + ": get(" + handle + ", " + i + ")", heap.get(handle, i), (first + i) % 256);
        }
    }

    private static void zero(String when, HandleHeap heap, int handle, int from, int to) {
        for (int i = from; i < to; i++) {
            CHECK.due(when + ": get(" + handle + ", " + i + ")", heap.get(handle, i), 0);
        }
    }

    private interface OfHandle {
        void make(HandleHeap heap, int handle);
    }

    /** Every handle that is not in use is refused: beyond the row, never used, dropped. */
    private static void needsHandleInUse(String what, OfHandle call) {
        HandleHeap heap = heapOf(10, 10);
        heap.drop(0);
        for (int h : NO_HANDLES) {
            CHECK.refused(what + " of handle " + h, Check.ARGUMENT, () -> call.make(heap, h));
        }
        for (int h : new int[] {0, 2, 47}) {
            CHECK.refused(what + " of unused handle " + h, Check.ARGUMENT, () -> call.make(heap, h));
        }
        told(what + " refused", heap, 1014, 1004, 2, 1, 0, 0, 0);
    }

    private static void needsBlock(String what, OfHandle call) {
        needsHandleInUse(what, call);
        HandleHeap heap = heapOf(10, 10);
        heap.lose(0);
        CHECK.refused(what + " of an empty handle", Check.STATE, () -> call.make(heap, 0));
        told(what + " of an empty handle", heap, 1014, 1004, 2, 2, 1, 0, 1);
    }

    private static void newObject() {
        HandleHeap heap = new HandleHeap();
        told("new", heap, 1024, 1024, 1, 0, 0, 0, 0);
        for (int h = 0; h < 48; h++) {
            CHECK.due("new: where(" + h + ")", heap.where(h), NONE);
            CHECK.due("new: size(" + h + ")", heap.size(h), 0);
        }
        CHECK.due("new: owner(0)", heap.owner(0), NONE);
        CHECK.due("new: owner(1023)", heap.owner(1023), NONE);
    }

    private static void askWithoutMoving() {
        HandleHeap heap = heapOf(10, 20, 30, 40);
        heap.drop(0);
        heap.drop(2);
        CHECK.due("ask 11 passes the gap of 10", heap.ask(11, false), 0);
        CHECK.due("ask 10 has the gap of 10", heap.ask(10, true), 2);
        CHECK.due("ask goes on with 4", heap.ask(924, false), 4);
        wheres("ask", heap, 30, 10, 0, 60, 100);
        told("ask", heap, 19, 19, 1, 5, 0, 0, 0);
        HandleHeap whole = heapOf(1024);
        told("ask 1024", whole, 0, 0, 0, 1, 0, 0, 0);
    }

    private static void askOnUsedBytes() {
        HandleHeap heap = heapOf(20);
        fill(heap, 0, 1);
        heap.drop(0);
        heap.ask(30, false);
        zero("ask on used bytes", heap, 0, 0, 30);
    }

    private static void askSlides() {
        HandleHeap heap = heapOf(100, 200, 300, 400);
        fill(heap, 1, 5);
        heap.lock(2, true);
        heap.drop(0);
        CHECK.due("ask that slides", heap.ask(124, true), NONE);
        wheres("ask that slides", heap, NONE, 0, 300, 600);
        told("ask that slides", heap, 124, 100, 2, 3, 0, 200, 0);
        filled("ask that slides", heap, 1, 5, 0, 200);
        heap.lock(2, false);
        CHECK.due("ask that slides again", heap.ask(124, true), 0);
        wheres("ask that slides again", heap, 900, 0, 200, 500);
        told("ask that slides again", heap, 0, 0, 0, 4, 0, 900, 0);
    }

    private static void askLoses() {
        HandleHeap heap = heapOf(100, 200, 300, 400);
        heap.losable(0, true);
        heap.losable(2, true);
        heap.losable(3, true);
        heap.lock(0, true);
        CHECK.due("ask that loses", heap.ask(50, false), 4);
        wheres("ask that loses", heap, 0, 100, EMPTY, 300, 700);
        told("ask that loses", heap, 274, 274, 1, 5, 1, 400, 1);
        CHECK.due("ask that loses in vain", heap.ask(1000, false), NONE);
        wheres("ask that loses in vain", heap, 0, 100, EMPTY, EMPTY, 300);
        told("ask that loses in vain", heap, 674, 674, 1, 5, 2, 450, 2);
    }

    private static void askLosesMany() {
        HandleHeap heap = heapOf(10, 20, 30, 964);
        for (int h = 0; h < 3; h++) {
            heap.losable(h, true);
        }
        CHECK.due("ask that loses two", heap.ask(25, false), 4);
        wheres("ask that loses two", heap, EMPTY, EMPTY, 0, 30, 994);
        told("ask that loses two", heap, 5, 5, 1, 5, 2, 20 + 30 + 964 + 30 + 964, 2);
    }

    private static void askWithoutHandles() {
        HandleHeap heap = heapOf(100, 900);
        heap.losable(0, true);
        for (int h = 2; h < 48; h++) {
            heap.ask(1, false);
            heap.lose(h);
        }
        told("48 handles", heap, 24, 24, 1, 48, 46, 0, 46);
        CHECK.due("ask without handles", heap.ask(1, false), NONE);
        CHECK.due("ask without handles, nothing is lost", heap.ask(100, false), NONE);
        told("48 handles", heap, 24, 24, 1, 48, 46, 0, 46);
        CHECK.refused("ask 0 without handles", Check.ARGUMENT, () -> heap.ask(0, false));
        heap.drop(30);
        CHECK.due("ask has the one dropped", heap.ask(1, false), 30);
    }

    private static void askOfWrongLengths() {
        HandleHeap heap = heapOf(5);
        for (int n : new int[] {0, -1, 1025, Integer.MIN_VALUE, Integer.MAX_VALUE}) {
            CHECK.refused("ask " + n, Check.ARGUMENT, () -> heap.ask(n, false));
        }
        told("ask refused", heap, 1019, 1019, 1, 1, 0, 0, 0);
    }

    private static void drop() {
        HandleHeap heap = heapOf(10, 20, 30);
        CHECK.due("fixed", heap.ask(40, true), 3);
        heap.lock(1, true);
        CHECK.due("drop of a locked one", heap.drop(1), 20);
        CHECK.due("drop beside a gap", heap.drop(0), 10);
        told("drop", heap, 954, 924, 2, 2, 0, 0, 0);
        CHECK.due("drop of a fixed one", heap.drop(3), 40);
        CHECK.due("lose", heap.lose(2), true);
        CHECK.due("drop of an empty one", heap.drop(2), 0);
        told("all dropped", heap, 1024, 1024, 1, 0, 0, 0, 1);
        CHECK.due("a dropped handle comes again", heap.ask(7, false), 0);
        needsHandleInUse("drop", HandleHeap::drop);
    }

    private static void resizeInPlace() {
        HandleHeap heap = heapOf(10, 20, 30);
        fill(heap, 0, 100);
        fill(heap, 1, 50);
        heap.losable(0, true);
        heap.lock(0, true);
        CHECK.due("resize to less", heap.resize(0, 4), true);
        CHECK.due("resize to the same", heap.resize(0, 4), true);
        told("resize to less", heap, 970, 964, 2, 3, 0, 0, 0);
        CHECK.due("resize into all that is behind", heap.resize(0, 10), true);
        filled("resize", heap, 0, 100, 0, 4);
        zero("resize", heap, 0, 4, 10);
        filled("resize", heap, 1, 50, 0, 20);
        CHECK.due("resize of a locked one, too much", heap.resize(0, 11), false);
        CHECK.due("still losable", heap.losable(0, false), true);
        CHECK.due("still locked", heap.lock(0, false), true);
        CHECK.due("resize to one byte", heap.resize(2, 1), true);
        CHECK.due("resize of the last one", heap.resize(2, 994), true);
        wheres("resize", heap, 0, 10, 30);
        told("resize", heap, 0, 0, 0, 3, 0, 0, 0);
    }

    private static void resizeOfFixed() {
        HandleHeap heap = heapOf(10, 20);
        heap.ask(30, true);
        heap.losable(1, true);
        heap.drop(0);
        CHECK.due("fixed one to less", heap.resize(2, 25), true);
        CHECK.due("fixed one to more", heap.resize(2, 994), true);
        CHECK.due("fixed one to too much", heap.resize(2, 995), false);
        wheres("nothing slid or lost for a fixed one", heap, NONE, 10, 30);
        told("nothing slid or lost for a fixed one", heap, 10, 10, 1, 2, 0, 0, 0);
    }

    private static void resizeElsewhere() {
        HandleHeap heap = heapOf(50, 20, 30);
        fill(heap, 1, 7);
        heap.losable(1, true);
        heap.drop(0);
        CHECK.due("resize into the first room", heap.resize(1, 50), true);
        wheres("resize into the first room", heap, NONE, 0, 70);
        told("resize into the first room", heap, 944, 924, 2, 2, 0, 20, 0);
        CHECK.due("resize upwards", heap.resize(1, 100), true);
        wheres("resize upwards", heap, NONE, 100, 70);
        filled("resize upwards", heap, 1, 7, 0, 20);
        zero("resize upwards", heap, 1, 20, 100);
        told("resize upwards", heap, 894, 824, 2, 2, 0, 70, 0);
        CHECK.due("still losable", heap.losable(1, false), true);
        CHECK.due("slide of the new order", heap.slide(), 894);
        wheres("slide of the new order", heap, NONE, 30, 0);
    }

    /** The room lies outside the block, even when the block with what is behind it would do. */
    private static void resizeBesideItself() {
        HandleHeap heap = heapOf(400, 100);
        fill(heap, 1, 3);
        heap.drop(0);
        CHECK.due("resize that only slides", heap.resize(1, 1000), false);
        wheres("resize that only slides", heap, NONE, 0);
        told("resize that only slides", heap, 924, 924, 1, 1, 0, 100, 0);
        filled("resize that only slides", heap, 1, 3, 0, 100);
        CHECK.due("now it grows", heap.resize(1, 1000), true);
        told("now it grows", heap, 24, 24, 1, 1, 0, 100, 0);
    }

    private static void resizeThatLoses() {
        HandleHeap heap = heapOf(100, 100, 100, 100, 624);
        fill(heap, 1, 9);
        heap.losable(1, true);
        heap.losable(2, true);
        heap.losable(3, true);
        heap.lock(4, true);
        heap.drop(0);
        CHECK.due("resize that loses", heap.resize(1, 150), true);
        wheres("resize that loses", heap, NONE, 200, EMPTY, 100, 400);
        filled("resize that loses", heap, 1, 9, 0, 100);
        zero("resize that loses", heap, 1, 100, 150);
        told("resize that loses", heap, 150, 100, 2, 4, 1, 500, 1);
        CHECK.due("resize that loses in vain", heap.resize(1, 500), false);
        CHECK.due("its own block isn't lost", heap.size(1), 150);
        CHECK.due("what was lost stays so", heap.where(3), EMPTY);
        told("resize that loses in vain", heap, 250, 250, 1, 4, 2, 900, 2);
    }

    private static void resizeOfEmpty() {
        HandleHeap heap = heapOf(100, 900);
        fill(heap, 0, 1);
        heap.losable(0, true);
        heap.lose(0);
        CHECK.due("no room for an empty one", heap.resize(0, 125), false);
        wheres("no room for an empty one, but slid", heap, EMPTY, 0);
        heap.losable(1, true);
        CHECK.due("room for an empty one", heap.resize(0, 125), true);
        wheres("room for an empty one", heap, 0, EMPTY);
        zero("room for an empty one", heap, 0, 0, 125);
        CHECK.due("not losable", heap.losable(0, false), false);
        CHECK.due("not locked", heap.lock(0, false), false);
        CHECK.due("not fixed", heap.lift(0), 899);
        told("room for an empty one", heap, 899, 899, 1, 2, 1, 1025, 2);
    }

    private static void resizeRefused() {
        needsHandleInUse("resize", (heap, h) -> heap.resize(h, 5));
        HandleHeap heap = heapOf(10, 10);
        heap.lose(1);
        for (int n : new int[] {0, -1, 1025, Integer.MIN_VALUE, Integer.MAX_VALUE}) {
            CHECK.refused("resize to " + n, Check.ARGUMENT, () -> heap.resize(0, n));
            CHECK.refused("resize of an empty one to " + n, Check.ARGUMENT, () -> heap.resize(1, n));
        }
        told("resize refused", heap, 1014, 1014, 1, 2, 1, 0, 1);
    }

    private static void lock() {
        HandleHeap heap = heapOf(10, 20, 30);
        heap.drop(0);
        CHECK.due("lock", heap.lock(1, true), false);
        CHECK.due("lock again", heap.lock(1, true), true);
        CHECK.due("slide round the locked one", heap.slide(), 964);
        CHECK.due("lose of a locked one", heap.lose(1), false);
        CHECK.due("unlock", heap.lock(1, false), true);
        CHECK.due("unlock again", heap.lock(1, false), false);
        CHECK.due("slide all", heap.slide(), 974);
        CHECK.due("a fixed one", heap.ask(5, true), 0);
        CHECK.due("lock of a fixed one", heap.lock(0, true), false);
        CHECK.due("unlock of a fixed one", heap.lock(0, false), true);
        CHECK.due("it is fixed all the same", heap.lose(0), false);
        heap.lock(1, true);
        heap.drop(1);
        CHECK.due("the handle again", heap.ask(5, false), 1);
        CHECK.due("no new block is locked", heap.lock(1, false), false);
        needsBlock("lock", (h, handle) -> h.lock(handle, true));
    }

    private static void losable() {
        HandleHeap heap = heapOf(10, 20);
        CHECK.due("losable", heap.losable(0, true), false);
        CHECK.due("losable again", heap.losable(0, true), true);
        CHECK.due("not losable", heap.losable(0, false), true);
        CHECK.due("not losable again", heap.losable(0, false), false);
        CHECK.due("clear", heap.clear(1024), 0);
        heap.losable(0, true);
        heap.drop(0);
        CHECK.due("the handle again", heap.ask(10, true), 0);
        CHECK.due("no new block is losable", heap.losable(0, true), false);
        CHECK.due("a fixed one is not lost", heap.clear(1024), 0);
        CHECK.due("it is losable all the same", heap.losable(0, true), true);
        needsBlock("losable", (h, handle) -> h.losable(handle, true));
    }

    private static void lose() {
        HandleHeap heap = heapOf(10, 20, 30);
        heap.ask(40, true);
        heap.losable(3, true);
        heap.losable(2, true);
        heap.lock(2, true);
        CHECK.due("lose of one that isn't losable", heap.lose(0), true);
        CHECK.due("lose of a locked one", heap.lose(2), false);
        CHECK.due("lose of a fixed one", heap.lose(3), false);
        wheres("lose does not slide", heap, EMPTY, 10, 30, 60);
        told("lose", heap, 934, 924, 2, 4, 1, 0, 1);
        CHECK.due("a handle that is empty stays in use", heap.ask(10, false), 4);
        needsBlock("lose", HandleHeap::lose);
    }

    private static void lift() {
        HandleHeap heap = heapOf(10, 20, 30, 40);
        fill(heap, 1, 200);
        heap.drop(2);
        CHECK.due("lift by more than its bytes", heap.lift(1), 30);
        wheres("lift", heap, 0, 40, NONE, 60);
        filled("lift", heap, 1, 200, 0, 20);
        told("lift", heap, 954, 924, 2, 3, 0, 20, 0);
        CHECK.due("lift of one without a gap behind", heap.lift(1), 0);
        CHECK.due("lift of the last one", heap.lift(3), 924);
        CHECK.due("lift of one at the end", heap.lift(3), 0);
        told("lift of the last one", heap, 954, 924, 2, 3, 0, 60, 0);
    }

    private static void liftOverItself() {
        HandleHeap heap = heapOf(30, 5, 10);
        fill(heap, 0, 31);
        heap.drop(1);
        CHECK.due("lift by fewer than its bytes", heap.lift(0), 5);
        filled("lift by fewer than its bytes", heap, 0, 31, 0, 30);
        told("lift by fewer than its bytes", heap, 984, 979, 2, 2, 0, 30, 0);
    }

    private static void liftRefused() {
        HandleHeap heap = heapOf(10, 20);
        heap.ask(5, true);
        heap.lock(0, true);
        heap.drop(1);
        CHECK.refused("lift of a locked one", Check.STATE, () -> heap.lift(0));
        CHECK.refused("lift of a fixed one", Check.STATE, () -> heap.lift(2));
        told("lift refused", heap, 1009, 989, 2, 2, 0, 0, 0);
        heap.ask(20, false);
        CHECK.refused("lift of a locked one without a gap", Check.STATE, () -> heap.lift(0));
        heap.lock(0, false);
        CHECK.due("lift without a gap", heap.lift(0), 0);
        needsBlock("lift", HandleHeap::lift);
    }

    private static void slide() {
        HandleHeap heap = heapOf(10, 20, 30, 40);
        CHECK.due("fixed", heap.ask(50, true), 4);
        CHECK.due("behind it", heap.ask(60, false), 5);
        CHECK.due("and more", heap.ask(70, false), 6);
        fill(heap, 1, 11);
        fill(heap, 3, 13);
        fill(heap, 6, 16);
        heap.lock(2, true);
        heap.losable(1, true);
        heap.drop(0);
        heap.drop(5);
        CHECK.due("slide", heap.slide(), 804);
        wheres("slide", heap, NONE, 0, 30, 60, 100, NONE, 150);
        filled("slide", heap, 1, 11, 0, 20);
        filled("slide", heap, 3, 13, 0, 40);
        filled("slide", heap, 6, 16, 0, 70);
        told("slide", heap, 814, 804, 2, 5, 0, 90, 0);
        CHECK.due("slide again", heap.slide(), 804);
        told("slide again", heap, 814, 804, 2, 5, 0, 90, 0);
        CHECK.due("slide of a new heap", new HandleHeap().slide(), 1024);
        CHECK.due("slide of a full heap", heapOf(1024).slide(), 0);
    }

    private static void clear() {
        HandleHeap heap = heapOf(100, 100, 100, 100, 100, 100);
        heap.drop(0);
        heap.losable(1, true);
        heap.losable(2, true);
        heap.losable(4, true);
        heap.lock(1, true);
        CHECK.due("clear 0", heap.clear(0), 0);
        CHECK.due("clear of what is there", heap.clear(424), 0);
        wheres("clear of what is there does not slide", heap, NONE, 100, 200, 300, 400, 500);
        CHECK.due("clear of one byte more", heap.clear(425), 1);
        wheres("clear of one byte more", heap, NONE, 100, EMPTY, 200, 300, 400);
        told("clear of one byte more", heap, 624, 524, 2, 5, 1, 300, 1);
        CHECK.due("clear of all", heap.clear(1024), 1);
        wheres("clear of all", heap, NONE, 100, EMPTY, 200, EMPTY, 300);
        CHECK.due("clear when there is none more", heap.clear(1024), 0);
        wheres("clear when there is none more does not slide", heap, NONE, 100, EMPTY, 200, EMPTY, 300);
        heap.lock(1, false);
        CHECK.due("clear of an unlocked one", heap.clear(1024), 1);
        wheres("clear of an unlocked one", heap, NONE, EMPTY, EMPTY, 0, EMPTY, 100);
        told("clear of an unlocked one", heap, 824, 824, 1, 5, 3, 600, 3);
        for (int n : new int[] {-1, 1025, Integer.MIN_VALUE, Integer.MAX_VALUE}) {
            CHECK.refused("clear " + n, Check.ARGUMENT, () -> heap.clear(n));
        }
    }

    /** Without a block to lose nothing slides, even where sliding alone would do. */
    private static void clearLosesBeforeItSlides() {
        HandleHeap heap = heapOf(100, 100, 824);
        heap.drop(0);
        CHECK.due("clear without losable ones", heap.clear(1024), 0);
        wheres("clear without losable ones", heap, NONE, 100, 200);
        heap.resize(2, 724);
        heap.losable(1, true);
        CHECK.due("clear loses where a slide would do", heap.clear(200), 1);
        wheres("clear loses where a slide would do", heap, NONE, EMPTY, 0);
    }

    private static void where() {
        HandleHeap heap = heapOf(10, 20);
        CHECK.due("where(0)", heap.where(0), 0);
        CHECK.due("where(1)", heap.where(1), 10);
        CHECK.due("where of an unused one", heap.where(47), NONE);
        heap.lose(0);
        CHECK.due("where of an empty one", heap.where(0), EMPTY);
        heap.drop(0);
        CHECK.due("where of a dropped one", heap.where(0), NONE);
        for (int h : NO_HANDLES) {
            CHECK.refused("where of " + h, Check.ARGUMENT, () -> heap.where(h));
        }
    }

    private static void size() {
        HandleHeap heap = heapOf(10, 20);
        CHECK.due("size(0)", heap.size(0), 10);
        CHECK.due("size(1)", heap.size(1), 20);
        CHECK.due("size of an unused one", heap.size(47), 0);
        heap.resize(1, 21);
        CHECK.due("size then", heap.size(1), 21);
        heap.lose(0);
        CHECK.due("size of an empty one", heap.size(0), 0);
        heap.drop(1);
        CHECK.due("size of a dropped one", heap.size(1), 0);
        for (int h : NO_HANDLES) {
            CHECK.refused("size of " + h, Check.ARGUMENT, () -> heap.size(h));
        }
    }

    private static void put() {
        HandleHeap heap = heapOf(10, 20);
        CHECK.due("put", heap.put(0, 9, 255), 0);
        CHECK.due("put again", heap.put(0, 9, 0), 255);
        CHECK.due("put a third time", heap.put(0, 9, 128), 0);
        CHECK.due("its neighbour", heap.get(1, 0), 0);
        for (int i : new int[] {-1, 10, Integer.MIN_VALUE, Integer.MAX_VALUE}) {
            CHECK.refused("put at " + i, Check.INDEX, () -> heap.put(0, i, 1));
        }
        for (int v : new int[] {-1, 256, Integer.MIN_VALUE, Integer.MAX_VALUE}) {
            CHECK.refused("put of " + v, Check.ARGUMENT, () -> heap.put(0, 0, v));
            CHECK.refused("put of " + v + " nowhere", Check.ARGUMENT, () -> heap.put(0, 10, v));
        }
        heap.lose(1);
        CHECK.refused("put of 256 in an empty one", Check.ARGUMENT, () -> heap.put(1, 0, 256));
        CHECK.refused("put nowhere in an empty one", Check.STATE, () -> heap.put(1, -1, 0));
        CHECK.due("nothing else was put", heap.get(0, 0), 0);
        CHECK.due("what was put", heap.get(0, 9), 128);
        needsBlock("put", (h, handle) -> h.put(handle, 0, 1));
        needsHandleInUse("put with all wrong", (h, handle) -> h.put(handle, -1, 256));
    }

    private static void get() {
        HandleHeap heap = heapOf(10, 20);
        heap.put(1, 0, 200);
        CHECK.due("get", heap.get(1, 0), 200);
        CHECK.due("get beside it", heap.get(1, 1), 0);
        CHECK.due("get of the block before it", heap.get(0, 9), 0);
        for (int i : new int[] {-1, 10, Integer.MIN_VALUE, Integer.MAX_VALUE}) {
            CHECK.refused("get at " + i, Check.INDEX, () -> heap.get(0, i));
        }
        heap.resize(0, 5);
        CHECK.refused("get behind the new end", Check.INDEX, () -> heap.get(0, 5));
        heap.lose(0);
        CHECK.refused("get nowhere in an empty one", Check.STATE, () -> heap.get(0, -1));
        needsBlock("get", (h, handle) -> h.get(handle, 0));
        needsHandleInUse("get with all wrong", (h, handle) -> h.get(handle, -1));
    }

    private static void owner() {
        HandleHeap heap = heapOf(10, 20, 30);
        heap.drop(1);
        CHECK.due("owner(0)", heap.owner(0), 0);
        CHECK.due("owner(9)", heap.owner(9), 0);
        CHECK.due("owner(10)", heap.owner(10), NONE);
        CHECK.due("owner(29)", heap.owner(29), NONE);
        CHECK.due("owner(30)", heap.owner(30), 2);
        CHECK.due("owner(59)", heap.owner(59), 2);
        CHECK.due("owner(60)", heap.owner(60), NONE);
        CHECK.due("owner(1023)", heap.owner(1023), NONE);
        heap.lose(0);
        CHECK.due("owner of what was lost", heap.owner(0), NONE);
        heap.lift(2);
        CHECK.due("owner of the last byte", heap.owner(1023), 2);
        for (int at : new int[] {-1, 1024, Integer.MIN_VALUE, Integer.MAX_VALUE}) {
            CHECK.refused("owner of " + at, Check.INDEX, () -> heap.owner(at));
        }
    }

    private static void told() {
        HandleHeap heap = heapOf(10, 20, 30, 40, 50);
        heap.drop(0);
        heap.lose(2);
        heap.drop(4);
        told("three gaps", heap, 964, 924, 3, 3, 1, 0, 1);
        heap.slide();
        told("slid", heap, 964, 964, 1, 3, 1, 60, 1);
        heap.lift(3);
        heap.slide();
        told("moved up and down", heap, 964, 964, 1, 3, 1, 140, 1);
        for (int what : new int[] {-1, 7, Integer.MIN_VALUE, Integer.MAX_VALUE}) {
            CHECK.refused("told " + what, Check.ARGUMENT, () -> heap.told(what));
        }
    }

    /** Each time that it goes elsewhere counts, even when one call brings a block back where it was. */
    private static void toldOfBlockThatComesBack() {
        HandleHeap heap = heapOf(100, 100, 100);
        heap.ask(724, true);
        heap.losable(2, true);
        heap.drop(0);
        CHECK.due("resize back to where it was", heap.resize(1, 150), true);
        wheres("resize back to where it was", heap, NONE, 100, EMPTY, 300);
        told("resize back to where it was", heap, 150, 100, 2, 3, 1, 300, 1);
    }

    private static void ask() {
        askWithoutMoving();
        askOnUsedBytes();
        askSlides();
        askLoses();
        askLosesMany();
        askWithoutHandles();
        askOfWrongLengths();
    }

    private static void resize() {
        resizeInPlace();
        resizeOfFixed();
        resizeElsewhere();
        resizeBesideItself();
        resizeThatLoses();
        resizeOfEmpty();
        resizeRefused();
    }

    public static void main(String[] args) {
        newObject();
        ask();
        drop();
        resize();
        lock();
        losable();
        lose();
        lift();
        liftOverItself();
        liftRefused();
        slide();
        clear();
        clearLosesBeforeItSlides();
        where();
        size();
        put();
        get();
        owner();
        told();
        toldOfBlockThatComesBack();
        CHECK.finish();
    }
}
