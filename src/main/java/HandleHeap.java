import java.util.Arrays;

/**
 * A heap whose blocks may be moved: they are known by handles that stay, while the heap slides
 * them together, gives up what may be lost, and works round those that stand fast; their bytes
 * go with them.
 */
public final class HandleHeap {
    public static final int NONE = -1, EMPTY = -2;

    private static final int BYTES = 1024;
    private static final int HANDLES = 48;
    private static final int GREATEST_VALUE = 255;

    private final int[] heap;

    /** By handle: where its block begins, EMPTY if it has none, NONE if it is unused. */
    private final int[] begin;

    /** By handle: how many bytes its block has, 0 without a block. */
    private final int[] length;

    // By handle; these mean something only while it has a block.
    private final boolean[] isFixed;
    private final boolean[] isLocked;
    private final boolean[] isLosable;

    /** The handles that have a block, as their blocks stand from byte 0 on; free blocks are the gaps. */
    private final int[] row;
    private int blocks;

    private int bytesMoved;
    private int blocksLost;

    public HandleHeap() {
        heap = new int[BYTES];
        begin = new int[HANDLES];
        Arrays.fill(begin, NONE);
        length = new int[HANDLES];
        isFixed = new boolean[HANDLES];
        isLocked = new boolean[HANDLES];
        isLosable = new boolean[HANDLES];
        row = new int[HANDLES];
        blocks = 0;
        bytesMoved = 0;
        blocksLost = 0;
    }

    public int ask(int n, boolean fixed) throws IllegalArgumentException {
        checkBlockLength(n);
        int handle = leastUnused();
        if (handle == NONE || !makeBlock(handle, n, fixed)) {
            return NONE;
        }
        return handle;
    }

    public int drop(int handle) throws IllegalArgumentException {
        checkInUse(handle);
        int freed = length[handle];
        takeBlock(handle, NONE);
        return freed;
    }

    public boolean resize(int handle, int n) throws IllegalArgumentException {
        checkInUse(handle);
        checkBlockLength(n);
        if (begin[handle] == EMPTY) {
            return makeBlock(handle, n, false);
        }
        if (n - length[handle] <= freeBehind(handle)) {
            setLength(handle, n);
            return true;
        }
        return isMovable(handle) && growElsewhere(handle, n);
    }

    public boolean lock(int handle, boolean locks) throws IllegalArgumentException, IllegalStateException {
        checkHasBlock(handle);
        boolean before = isLocked[handle];
        isLocked[handle] = locks;
        return before;
    }

    public boolean losable(int handle, boolean may) throws IllegalArgumentException, IllegalStateException {
        checkHasBlock(handle);
        boolean before = isLosable[handle];
        isLosable[handle] = may;
        return before;
    }

    public boolean lose(int handle) throws IllegalArgumentException, IllegalStateException {
        checkHasBlock(handle);
        if (!isMovable(handle)) {
            return false;
        }
        giveUp(handle);
        return true;
    }

    public int lift(int handle) throws IllegalArgumentException, IllegalStateException {
        checkHasBlock(handle);
        if (!isMovable(handle)) {
            throw new IllegalStateException("the block is not movable");
        }
        int higher = freeBehind(handle);
        moveTo(handle, begin[handle] + higher);
        return higher;
    }

    public int slide() {
        slideTogether();
        return greatestGap();
    }

    public int clear(int n) throws IllegalArgumentException {
        if (n < 0 || n > BYTES) {
            throw new IllegalArgumentException("n is not 0 to 1024");
        }
        int given = 0;
        while (given < HANDLES && greatestGap() < n && giveUpFirst(NONE)) {
            slideTogether();
            given++;
        }
        return given;
    }

    public int where(int handle) throws IllegalArgumentException {
        checkHandle(handle);
        return begin[handle];
    }

    public int size(int handle) throws IllegalArgumentException {
        checkHandle(handle);
        return length[handle];
    }

    public int put(int handle, int i, int v)
            throws IllegalArgumentException, IllegalStateException, IndexOutOfBoundsException {
        if (v < 0 || v > GREATEST_VALUE) {
            throw new IllegalArgumentException("v is not 0 to 255");
        }
        checkHasBlock(handle);
        checkByte(i, length[handle]);
        int at = begin[handle] + i;
        int before = heap[at];
        heap[at] = v;
        return before;
    }

    public int get(int handle, int i)
            throws IllegalArgumentException, IllegalStateException, IndexOutOfBoundsException {
        checkHasBlock(handle);
        checkByte(i, length[handle]);
        return heap[begin[handle] + i];
    }

    public int owner(int at) throws IndexOutOfBoundsException {
        checkByte(at, BYTES);
        for (int k = 0; k < blocks; k++) {
            int handle = row[k];
            if (begin[handle] <= at && at < endOf(handle)) {
                return handle;
            }
        }
        return NONE;
    }

    public int told(int what) throws IllegalArgumentException {
        switch (what) {
            case 0:
                return freeBytes();
            case 1:
                return greatestGap();
            case 2:
                return countGaps();
            case 3:
                return HANDLES - countHandles(NONE);
            case 4:
                return countHandles(EMPTY);
            case 5:
                return bytesMoved;
            case 6:
                return blocksLost;
            default:
                throw new IllegalArgumentException("what is not 0 to 6");
        }
    }

    // What a call refuses.

    private static void checkHandle(int handle) {
        if (handle < 0 || handle >= HANDLES) {
            throw new IllegalArgumentException("handle is not 0 to 47");
        }
    }

    private void checkInUse(int handle) {
        checkHandle(handle);
        if (begin[handle] == NONE) {
            throw new IllegalArgumentException("the handle is unused");
        }
    }

    private void checkHasBlock(int handle) {
        checkInUse(handle);
        if (begin[handle] == EMPTY) {
            throw new IllegalStateException("the handle is empty");
        }
    }

    private static void checkBlockLength(int n) {
        if (n < 1 || n > BYTES) {
            throw new IllegalArgumentException("n is not 1 to 1024");
        }
    }

    private static void checkByte(int i, int bytes) {
        if (i < 0 || i >= bytes) {
            throw new IndexOutOfBoundsException("there is no such byte");
        }
    }

    // Handles.

    private int leastUnused() {
        for (int handle = 0; handle < HANDLES; handle++) {
            if (begin[handle] == NONE) {
                return handle;
            }
        }
        return NONE;
    }

    private int countHandles(int state) {
        int count = 0;
        for (int handle = 0; handle < HANDLES; handle++) {
            if (begin[handle] == state) {
                count++;
            }
        }
        return count;
    }

    private boolean isMovable(int handle) {
        return !isFixed[handle] && !isLocked[handle];
    }

    private int endOf(int handle) {
        return begin[handle] + length[handle];
    }

    // The gaps, which are the free blocks: gap k lies before block k of the row, the last one behind all.

    private int gapBegin(int k) {
        return k == 0 ? 0 : endOf(row[k - 1]);
    }

    private int gapLength(int k) {
        int end = k == blocks ? BYTES : begin[row[k]];
        return end - gapBegin(k);
    }

    private int firstGapOf(int n) {
        for (int k = 0; k <= blocks; k++) {
            if (gapLength(k) >= n) {
                return k;
            }
        }
        return NONE;
    }

    private int greatestGap() {
        int greatest = 0;
        for (int k = 0; k <= blocks; k++) {
            greatest = Math.max(greatest, gapLength(k));
        }
        return greatest;
    }

    private int countGaps() {
        int count = 0;
        for (int k = 0; k <= blocks; k++) {
            if (gapLength(k) > 0) {
                count++;
            }
        }
        return count;
    }

    private int freeBytes() {
        int free = 0;
        for (int k = 0; k <= blocks; k++) {
            free += gapLength(k);
        }
        return free;
    }

    private int freeBehind(int handle) {
        for (int k = 0; k < blocks; k++) {
            if (row[k] == handle) {
                return gapLength(k + 1);
            }
        }
        return 0;
    }

    // The row of blocks.

    private void enterRow(int handle) {
        int k = blocks;
        while (k > 0 && begin[row[k - 1]] > begin[handle]) {
            row[k] = row[k - 1];
            k--;
        }
        row[k] = handle;
        blocks++;
    }

    private void leaveRow(int handle) {
        int kept = 0;
        for (int k = 0; k < blocks; k++) {
            if (row[k] != handle) {
                row[kept] = row[k];
                kept++;
            }
        }
        blocks = kept;
    }

    // Blocks made, changed, moved and lost.

    private boolean makeBlock(int handle, int n, boolean fixed) {
        int at = findRoom(n, NONE);
        if (at == NONE) {
            return false;
        }
        begin[handle] = at;
        setLength(handle, n);
        isFixed[handle] = fixed;
        isLocked[handle] = false;
        isLosable[handle] = false;
        enterRow(handle);
        return true;
    }

    private void takeBlock(int handle, int stateThen) {
        leaveRow(handle);
        begin[handle] = stateThen;
        length[handle] = 0;
    }

    /** Free bytes keep what was in them, so those that a block gains are made 0 here. */
    private void setLength(int handle, int n) {
        if (n > length[handle]) {
            Arrays.fill(heap, endOf(handle), begin[handle] + n, 0);
        }
        length[handle] = n;
    }

    private boolean growElsewhere(int handle, int n) {
        int at = findRoom(n, handle);
        if (at == NONE) {
            return false;
        }
        leaveRow(handle);
        moveTo(handle, at);
        enterRow(handle);
        setLength(handle, n);
        return true;
    }

    private void moveTo(int handle, int at) {
        if (at == begin[handle]) {
            return;
        }
        System.arraycopy(heap, begin[handle], heap, at, length[handle]);
        begin[handle] = at;
        bytesMoved += length[handle];
    }

    private void giveUp(int handle) {
        takeBlock(handle, EMPTY);
        blocksLost++;
    }

    /** Loses the first block that may be lost, but not that of the handle spared; tells whether there was one. */
    private boolean giveUpFirst(int spared) {
        for (int k = 0; k < blocks; k++) {
            int handle = row[k];
            if (handle != spared && isLosable[handle] && isMovable(handle)) {
                giveUp(handle);
                return true;
            }
        }
        return false;
    }

    private void slideTogether() {
        int end = 0;
        for (int k = 0; k < blocks; k++) {
            int handle = row[k];
            if (isMovable(handle)) {
                moveTo(handle, end);
            }
            end = endOf(handle);
        }
    }

    /** Where there is room for n bytes, or NONE; the block of the handle that asks is never lost for it. */
    private int findRoom(int n, int asks) {
        int gap = firstGapOf(n);
        if (gap == NONE) {
            slideTogether();
            gap = firstGapOf(n);
        }
        for (int lost = 0; lost < HANDLES && gap == NONE && giveUpFirst(asks); lost++) {
            slideTogether();
            gap = firstGapOf(n);
        }
        return gap == NONE ? NONE : gapBegin(gap);
    }
}
