import java.util.ArrayList;
import java.util.Arrays;
import java.util.List;

/**
 * The document's terms taken at their word: all blocks in one list, free ones too, each with bytes of
 * its own. A call that throws by the document answers ARGUMENT, STATE or INDEX instead.
 */
final class HeapModel {
    static final long ARGUMENT = 1_000_001, STATE = 1_000_002, INDEX = 1_000_003;

    private static final int FREE = -1;

    private static final class Block {
        final int handle;
        int[] bytes;
        boolean fixed, locked, losable;

        Block(int handle, int n) {
            this.handle = handle;
            this.bytes = new int[n];
        }

        boolean movable() {
            return handle != FREE && !fixed && !locked;
        }
    }

    private final List<Block> blocks = new ArrayList<>();
    private final boolean[] used = new boolean[48];
    private int moved = 0;
    private int lost = 0;

    HeapModel() {
        blocks.add(new Block(FREE, 1024));
    }

    // Looking.

    private Block of(int handle) {
        for (Block b : blocks) {
            if (b.handle == handle) {
                return b;
            }
        }
        return null;
    }

    private int begin(Block block) {
        int at = 0;
        for (Block b : blocks) {
            if (b == block) {
                return at;
            }
            at += b.bytes.length;
        }
        throw new AssertionError("a block that is not in the heap");
    }

    private boolean inUse(int handle) {
        return handle >= 0 && handle < 48 && used[handle];
    }

    private long refusal(int handle) {
        return !inUse(handle) ? ARGUMENT : of(handle) == null ? STATE : 0;
    }

    private int greatest() {
        int greatest = 0;
        for (Block b : blocks) {
            if (b.handle == FREE && b.bytes.length > greatest) {
                greatest = b.bytes.length;
            }
        }
        return greatest;
    }

    private Block firstFree(int n) {
        for (Block b : blocks) {
            if (b.handle == FREE && b.bytes.length >= n) {
                return b;
            }
        }
        return null;
    }

    private Block firstToLose(Block spared) {
        for (Block b : blocks) {
            if (b != spared && b.movable() && b.losable) {
                return b;
            }
        }
        return null;
    }

    // Changing.

    /** No free block is of no bytes, and no two stand beside one another. */
    private void tidy() {
        List<Block> tidied = new ArrayList<>();
        int free = 0;
        for (Block b : blocks) {
            if (b.handle == FREE) {
                free += b.bytes.length;
                continue;
            }
            if (free > 0) {
                tidied.add(new Block(FREE, free));
            }
            free = 0;
            tidied.add(b);
        }
        if (free > 0) {
            tidied.add(new Block(FREE, free));
        }
        blocks.clear();
        blocks.addAll(tidied);
    }

    private void release(Block b) {
        blocks.set(blocks.indexOf(b), new Block(FREE, b.bytes.length));
        tidy();
    }

    private void loseBlock(Block b) {
        release(b);
        lost++;
    }

    private void slideAll() {
        for (int k = 1; k < blocks.size(); k++) {
            Block before = blocks.get(k - 1);
            Block b = blocks.get(k);
            if (before.handle == FREE && b.movable()) {
                blocks.set(k - 1, b);
                blocks.set(k, before);
                moved += b.bytes.length;
                tidy();
            }
        }
    }

    private Block room(int n, Block asks) {
        Block free = firstFree(n);
        if (free != null) {
            return free;
        }
        slideAll();
        while (firstFree(n) == null) {
            Block b = firstToLose(asks);
            if (b == null) {
                return null;
            }
            loseBlock(b);
            slideAll();
        }
        return firstFree(n);
    }

    private void stand(Block b, Block room) {
        int k = blocks.indexOf(room);
        blocks.set(k, b);
        blocks.add(k + 1, new Block(FREE, room.bytes.length - b.bytes.length));
        tidy();
    }

    private boolean make(int handle, int n, boolean fixed) {
        Block room = room(n, null);
        if (room == null) {
            return false;
        }
        Block b = new Block(handle, n);
        b.fixed = fixed;
        stand(b, room);
        return true;
    }

    // The calls.

    long ask(int n, boolean fixed) {
        if (n < 1 || n > 1024) {
            return ARGUMENT;
        }
        for (int h = 0; h < 48; h++) {
            if (!used[h]) {
                used[h] = make(h, n, fixed);
                return used[h] ? h : -1;
            }
        }
        return -1;
    }

    long drop(int handle) {
        if (!inUse(handle)) {
            return ARGUMENT;
        }
        used[handle] = false;
        Block b = of(handle);
        if (b == null) {
            return 0;
        }
        release(b);
        return b.bytes.length;
    }

    long resize(int handle, int n) {
        if (!inUse(handle) || n < 1 || n > 1024) {
            return ARGUMENT;
        }
        Block b = of(handle);
        if (b == null) {
            return make(handle, n, false) ? 1 : 0;
        }
        int had = b.bytes.length;
        int k = blocks.indexOf(b);
        boolean freeBehind = k + 1 < blocks.size() && blocks.get(k + 1).handle == FREE;
        int behind = freeBehind ? blocks.get(k + 1).bytes.length : 0;
        if (n <= had + behind) {
            if (freeBehind) {
                blocks.remove(k + 1);
            }
            blocks.add(k + 1, new Block(FREE, had + behind - n));
            b.bytes = Arrays.copyOf(b.bytes, n);
            tidy();
            return 1;
        }
        if (!b.movable()) {
            return 0;
        }
        Block room = room(n, b);
        if (room == null) {
            return 0;
        }
        // Another block takes over, since the old one's bytes are free only once the new one stands.
        Block then = new Block(handle, n);
        then.bytes = Arrays.copyOf(b.bytes, n);
        then.losable = b.losable;
        stand(then, room);
        release(b);
        moved += had;
        return 1;
    }

    long lock(int handle, boolean locks) {
        long refusal = refusal(handle);
        if (refusal != 0) {
            return refusal;
        }
        Block b = of(handle);
        boolean before = b.locked;
        b.locked = locks;
        return before ? 1 : 0;
    }

    long losable(int handle, boolean may) {
        long refusal = refusal(handle);
        if (refusal != 0) {
            return refusal;
        }
        Block b = of(handle);
        boolean before = b.losable;
        b.losable = may;
        return before ? 1 : 0;
    }

    long lose(int handle) {
        long refusal = refusal(handle);
        if (refusal != 0) {
            return refusal;
        }
        Block b = of(handle);
        if (!b.movable()) {
            return 0;
        }
        loseBlock(b);
        return 1;
    }

    long lift(int handle) {
        long refusal = refusal(handle);
        if (refusal != 0) {
            return refusal;
        }
        Block b = of(handle);
        if (!b.movable()) {
            return STATE;
        }
        int k = blocks.indexOf(b);
        if (k + 1 == blocks.size() || blocks.get(k + 1).handle != FREE) {
            return 0;
        }
        Block free = blocks.remove(k + 1);
        blocks.add(k, free);
        tidy();
        moved += b.bytes.length;
        return free.bytes.length;
    }

    long slide() {
        slideAll();
        return greatest();
    }

    long clear(int n) {
        if (n < 0 || n > 1024) {
            return ARGUMENT;
        }
        int count = 0;
        while (greatest() < n && firstToLose(null) != null) {
            loseBlock(firstToLose(null));
            slideAll();
            count++;
        }
        return count;
    }

    long where(int handle) {
        if (handle < 0 || handle >= 48) {
            return ARGUMENT;
        }
        Block b = of(handle);
        return !used[handle] ? -1 : b == null ? -2 : begin(b);
    }

    long size(int handle) {
        if (handle < 0 || handle >= 48) {
            return ARGUMENT;
        }
        Block b = of(handle);
        return b == null ? 0 : b.bytes.length;
    }

    long put(int handle, int i, int v) {
        if (!inUse(handle) || v < 0 || v > 255) {
            return ARGUMENT;
        }
        long before = get(handle, i);
        if (before < ARGUMENT) {
            of(handle).bytes[i] = v;
        }
        return before;
    }

    long get(int handle, int i) {
        long refusal = refusal(handle);
        if (refusal != 0) {
            return refusal;
        }
        int[] bytes = of(handle).bytes;
        return i < 0 || i >= bytes.length ? INDEX : bytes[i];
    }

    long owner(int at) {
        if (at < 0 || at > 1023) {
            return INDEX;
        }
        int end = 0;
        for (Block b : blocks) {
            end += b.bytes.length;
            if (at < end) {
                return b.handle;
            }
        }
        throw new AssertionError("the blocks do not fill the heap");
    }

    long told(int what) {
        int freeBytes = 0, freeBlocks = 0, inUse = 0, withBlock = 0;
        for (Block b : blocks) {
            if (b.handle == FREE) {
                freeBytes += b.bytes.length;
                freeBlocks++;
            } else {
                withBlock++;
            }
        }
        for (boolean u : used) {
            inUse += u ? 1 : 0;
        }
        long[] all = {freeBytes, greatest(), freeBlocks, inUse, inUse - withBlock, moved, lost};
        return what < 0 || what > 6 ? ARGUMENT : all[what];
    }
}
