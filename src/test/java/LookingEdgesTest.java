/**
 * The edges that promises 11 to 16 name, the calls that look at the heap or at its bytes: each scene begins with the
 * words of the document that it tests.
 */
public final class LookingEdgesTest {
    private static final Check CHECK = new Check();

    private static final String[] BEYOND_THE_HANDLES = {"-1", "48", "min", "max"};

    private static void edge(int promise, String words, String when, String rows) {
        Scene.play(CHECK, "Promise " + promise + ": " + words + ": " + when, rows);
    }

    /** A call, with "H" for its handle, on handles that are not in use and on empty ones. */
    private static void needsBlock(int promise, String call) {
        for (String handle : BEYOND_THE_HANDLES) {
            edge(promise, "there is no such handle in use", "beyond the ends", """
                    ask 10; ask 20; lose 1
                    """ + call.replace("H", handle) + " = IllegalArgumentException");
        }
        String of0 = call.replace("H", "0");
        String of47 = call.replace("H", "47");
        edge(promise, "there is no such handle in use", "in a new heap", of0 + " = IllegalArgumentException");
        edge(promise, "there is no such handle in use", "the last one",
                "47 x ask 9; " + of47 + " = IllegalArgumentException");
        edge(promise, "there is no such handle in use", "dropped",
                "ask 9; drop 0; " + of0 + " = IllegalArgumentException");
        edge(promise, "it is empty", "lost", "ask 9; lose 0; " + of0 + " = IllegalStateException");
        edge(promise, "it is empty", "the last one lost", "48 x ask 9; lose 47; " + of47 + " = IllegalStateException");
        edge(promise, "it is empty", "cleared", "ask 9; losable 0; clear 1024; " + of0 + " = IllegalStateException");
    }

    // Promises 11 and 12.

    private static void where() {
        String words = "Where a handle's block begins; EMPTY if it is empty, NONE if it is unused.";
        edge(11, words, "the first byte and the last", "ask 1023; ask 1; where 0 = 0; where 1 = 1023");
        edge(11, words, "empty, in each way", """
                ask 10; ask 10; ask 10; ask 990; losable 1; losable 2; lose 0; where 0 = EMPTY; clear 20 = 1
                where 1 = EMPTY
                ask 30 = 4; where 2 = EMPTY""");
        edge(11, words, "unused: never used, dropped, dropped when empty", """
                ask 10; ask 10; lose 1; drop 0; drop 1; where 0 = NONE; where 1 = NONE; where 2 = NONE
                where 47 = NONE""");
        edge(11, words, "an ask in vain leaves it unused", "ask 1024; ask 1 = NONE; where 1 = NONE");
        edge(11, words, "moved by each call that moves", """
                ask 10; ask 20; ask 30; drop 0; where 1 = 10; slide; where 1 = 0; where 2 = 20; lift 2 = 974
                where 2 = 994
                ask 5; resize 1 21 = true; where 1 = 25""");
        for (String handle : BEYOND_THE_HANDLES) {
            edge(11, "handle is not 0 to 47", handle, "ask 10; where " + handle + " = IllegalArgumentException");
        }
        edge(11, "handle is not 0 to 47", "both ends, unused", "where 0 = NONE; where 47 = NONE");
        edge(11, "handle is not 0 to 47", "both ends, in use", "48 x ask 3; where 0 = 0; where 47 = 141");
    }

    private static void size() {
        String words = "How many bytes a handle's block has; 0 if it is empty or unused.";
        edge(12, words, "one byte, all bytes", "ask 1; size 0 = 1; drop 0; ask 1024; size 0 = 1024");
        edge(12, words, "empty", "ask 10; size 0 = 10; lose 0; size 0 = 0; resize 0 7; size 0 = 7");
        edge(12, words, "unused", "ask 10; drop 0; size 0 = 0; size 1 = 0; size 47 = 0");
        edge(12, words, "dropped when empty", "ask 10; lose 0; drop 0; size 0 = 0");
        edge(12, words, "after resize, also in vain", """
                ask 10; ask 10; resize 0 9; size 0 = 9; resize 0 10; size 0 = 10; resize 0 11; size 0 = 11
                resize 0 1024 = false; size 0 = 11""");
        edge(12, words, "moving does not change it", "ask 9; ask 10; drop 0; slide; lift 1; size 1 = 10");
        for (String handle : BEYOND_THE_HANDLES) {
            edge(12, "handle is not 0 to 47", handle, "ask 10; size " + handle + " = IllegalArgumentException");
        }
        edge(12, "handle is not 0 to 47", "both ends, in use", "47 x ask 3; ask 4; size 0 = 3; size 47 = 4");
    }

    // Promises 13 and 14.

    private static void put() {
        String words = "Byte i of a block becomes v. Answers what it was.";
        edge(13, words, "the first byte and the last of a block between others", """
                ask 5; ask 10; ask 5; put 1 0 11 = 0; put 1 9 22 = 0; put 1 0 33 = 11; put 1 9 44 = 22
                get 1 0 = 33; get 1 9 = 44; get 1 1 = 0; get 1 8 = 0; zero 0 0 5; zero 2 0 5""");
        edge(13, words, "a block of one byte", "ask 1; put 0 0 1 = 0; put 0 0 2 = 1; get 0 0 = 2");
        edge(13, words, "the last byte of the heap",
                "ask 1024; put 0 1023 255 = 0; put 0 1023 0 = 255; get 0 1023 = 0");
        edge(13, words, "fixed, locked and losable ones", """
                ask 1 fixed; ask 1; ask 1; lock 1; losable 2; put 0 0 1 = 0; put 1 0 2 = 0; put 2 0 3 = 0
                get 0 0 = 1; get 1 0 = 2; get 2 0 = 3""");
        needsBlock(13, "put H 0 1");
        needsBlock(13, "put H -1 255");
    }

    private static void putValues() {
        String words = "v is not 0 to 255";
        edge(13, words, "the least and the greatest",
                "ask 2; put 0 0 255 = 0; get 0 0 = 255; put 0 0 0 = 255; get 0 0 = 0");
        edge(13, words, "between them", "ask 1; put 0 0 127 = 0; put 0 0 128 = 127; put 0 0 254 = 128; get 0 0 = 254");
        for (String v : new String[] {"-1", "256", "min", "max"}) {
            String refused = v + " = IllegalArgumentException\n";
            edge(13, words, "in a block", "ask 2; put 0 0 7; put 0 0 " + refused + "get 0 0 = 7");
            edge(13, words, "where there is no byte", "ask 2; put 0 2 " + refused + "put 0 -1 " + refused);
            edge(13, words, "in an empty one", "ask 2; lose 0; put 0 0 " + refused);
        }
    }

    /** Put and get have the same bytes: v is what put gives behind the byte, and nothing for get. */
    private static void noByte(int promise, String call, String v) {
        String words = "there is no byte i";
        String[][] blocks = {
            {"one byte", "ask 1", "1"},
            {"all bytes", "ask 1024", "1024"},
            {"a block that was longer", "ask 20; resize 0 10", "10"},
            {"a block that was shorter", "ask 5; resize 0 10", "10"},
            {"a block behind another", "ask 5; ask 5; drop 0; ask 10", "10"},
        };
        for (String[] block : blocks) {
            for (String i : new String[] {"-1", block[2], "min", "max"}) {
                edge(promise, words, block[0], block[1] + "; " + call + "0 " + i + v + " = IndexOutOfBoundsException");
            }
        }
        edge(promise, words, "a byte of the block behind it", """
                ask 10; ask 10; put 1 0 9
                """ + call + "0 10" + v + " = IndexOutOfBoundsException; get 1 0 = 9");
        edge(promise, words, "a byte of the block before it", """
                ask 10; ask 10; put 0 9 9
                """ + call + "1 -1" + v + " = IndexOutOfBoundsException; get 0 9 = 9");
    }

    private static void get() {
        String words = "Byte i of a block.";
        edge(14, words, "the first and the last",
                "ask 5; ask 10; put 1 0 1; put 1 9 2; get 1 0 = 1; get 1 9 = 2; get 1 5 = 0");
        edge(14, words, "all bytes", "ask 1024; put 0 0 1; put 0 1023 2; get 0 0 = 1; get 0 1023 = 2");
        edge(14, words, "they go with it: slid, lifted, grown, slid", """
                ask 7; ask 10; ask 30; write 1 1 10; drop 0; slide; read 1 1 10; lift 2; lift 1; read 1 1 10
                slide; resize 1 11 = true; where 1 = 40; read 1 1 10; get 1 10 = 0""");
        edge(14, words, "they go with it by less than its bytes, up and down", """
                ask 3; ask 20; ask 2; ask 999; write 1 1 20; drop 2; lift 1 = 2; read 1 1 20; drop 0; slide = 5
                where 1 = 0; read 1 1 20""");
        edge(14, words, "what others put stays out of it", "ask 5; ask 5; ask 5; write 0 1 5; write 2 9 5; zero 1 0 5");
        needsBlock(14, "get H 0");
        needsBlock(14, "get H -1");
    }

    // Promise 15.

    private static void owner() {
        String words = "The handle whose block has a byte of the heap; NONE if it is free.";
        edge(15, words, "both ends of blocks and of free ones", """
                ask 10; ask 20; ask 30; drop 1; owner 0 = 0; owner 9 = 0; owner 10 = NONE; owner 29 = NONE
                owner 30 = 2; owner 59 = 2; owner 60 = NONE; owner 1023 = NONE""");
        edge(15, words, "blocks of one byte",
                "ask 1; ask 1; ask 1; drop 1; owner 0 = 0; owner 1 = NONE; owner 2 = 2; owner 3 = NONE");
        edge(15, words, "lost and dropped ones",
                "ask 10; ask 10; owner 5 = 0; lose 0; owner 5 = NONE; drop 1; owner 15 = NONE");
        edge(15, words, "the last handle", "48 x ask 1; owner 47 = 47; owner 46 = 46; owner 48 = NONE");
        edge(15, words, "after each move", """
                ask 10; ask 20; drop 0; owner 0 = NONE; slide; owner 0 = 1; owner 19 = 1; owner 20 = NONE
                lift 1; owner 0 = NONE; owner 1003 = NONE; owner 1004 = 1; owner 1023 = 1""");
        words = "there is no such byte";
        edge(15, words, "the first and the last are there",
                "owner 0 = NONE; owner 1023 = NONE; ask 1024; owner 0 = 0; owner 1023 = 0");
        for (String at : new String[] {"-1", "1024", "min", "max"}) {
            edge(15, words, "a new heap", "owner " + at + " = IndexOutOfBoundsException");
            edge(15, words, "a full heap", "ask 1024; owner " + at + " = IndexOutOfBoundsException");
        }
    }

    // Promise 16.

    private static void toldOfFreeBlocks() {
        edge(16, "How many bytes are free (what = 0)", "none, one, all", """
                told 0 = 1024; ask 1023; told 0 = 1; ask 1; told 0 = 0; lose 1; told 0 = 1; drop 0; told 0 = 1024""");
        edge(16, "the greatest free block (1)", "none, one, all", """
                told 1 = 1024; ask 1023; told 1 = 1; ask 1; told 1 = 0; drop 0; told 1 = 1023; lose 1
                told 1 = 1024""");
        edge(16, "the greatest free block (1)", "the first, one between, the last", """
                ask 300; ask 10 fixed; ask 400; ask 10 fixed; ask 304; drop 0; told 1 = 300; drop 2; told 1 = 400
                resize 4 1 = true; told 1 = 400; ask 301 = 0; told 1 = 303""");
        edge(16, "how many free blocks (2)", "none, one, several", """
                told 2 = 1; ask 1024; told 2 = 0; resize 0 1023; told 2 = 1; resize 0 1; ask 1; ask 1; told 2 = 1
                drop 1; told 2 = 2; drop 0; told 2 = 2; lift 2; told 2 = 1""");
        edge(16, "how many free blocks (2)", "as many as there can be between 24 blocks", """
                48 x ask 1
                """ + dropEven() + "told 2 = 25; told 1 = 976; told 0 = 1000; slide = 1000; told 2 = 1");
    }

    private static String dropEven() {
        StringBuilder rows = new StringBuilder();
        for (int h = 0; h < 48; h += 2) {
            rows.append("drop ").append(h).append('\n');
        }
        return rows.toString();
    }

    private static void toldOfHandles() {
        edge(16, "handles in use (3)", "none to all, empty ones too", """
                told 3 = 0; ask 1; told 3 = 1; lose 0; told 3 = 1; drop 0; told 3 = 0
                48 x ask 1
                told 3 = 48; ask 1 = NONE; told 3 = 48; lose 47; told 3 = 48; drop 47; told 3 = 47""");
        edge(16, "handles in use (3)", "an ask in vain takes none", "ask 1024; ask 1 = NONE; told 3 = 1");
        edge(16, "empty ones of them (4)", "none to some, unused ones not", """
                told 4 = 0; ask 1; ask 1; told 4 = 0; lose 0; told 4 = 1; lose 1; told 4 = 2; drop 0; told 4 = 1
                resize 1 1; told 4 = 0""");
        edge(16, "empty ones of them (4)", "all", "48 x ask 1; 48 each lose; tells = 1024 1024 1 48 48 0 48");
    }

    private static void toldOfBytesMoved() {
        String words = "bytes moved since the beginning: of each block that is somewhere else then "
                + "those that it had (5)";
        edge(16, words, "none: what stays where it is", """
                ask 10; ask 10; slide; lift 0; resize 0 5; resize 0 10; resize 1 50; lose 0; ask 10; drop 1; clear 1024
                told 5 = 0""");
        edge(16, words, "one byte", "ask 1; ask 1; drop 0; slide; told 5 = 1");
        edge(16, words, "a lift and the slide back", "ask 30; lift 0; told 5 = 30; slide; told 5 = 60");
        edge(16, words, "growing: those that it had, not those that it has", """
                ask 10; ask 10; resize 0 500 = true; where 0 = 20; told 5 = 10""");
        edge(16, words, "each slide of a call", """
                ask 10; ask 20; ask 30; ask 964; losable 0; losable 1; ask 30 = 4; told 5 = 2008""");
        edge(16, words, "slid for a call in vain", "ask 10; ask 20; drop 0; ask 1024 = NONE; told 5 = 20");
        edge(16, words, "slid, then gone elsewhere in the same call", """
                ask 10; ask 20; ask 974; ask 20; drop 0; drop 3; resize 1 30 = true; told 5 = 1014""");
        edge(16, words, "the bytes of blocks lost do not count, those slid behind them do", """
                ask 10; ask 20; ask 30; losable 1; clear 984 = 1; told 5 = 30""");
    }

    private static void toldOfBlocksLost() {
        String words = "blocks lost since the beginning (6)";
        edge(16, words, "by each call that loses", """
                told 6 = 0; ask 10; ask 10; ask 10; ask 10; ask 984; told 6 = 0; lose 0 = true; told 6 = 1
                losable 1; losable 2; losable 3; clear 11 = 1; told 6 = 2; ask 30 = 5; told 6 = 3
                resize 0 10 = true; told 6 = 4""");
        edge(16, words, "not by drop, nor by what is refused", """
                ask 10; ask 10 fixed; drop 0; lose 1 = false; lose 0 = IllegalArgumentException; told 6 = 0""");
        edge(16, words, "the same handle again",
                "ask 1; lose 0; resize 0 1; lose 0; drop 0; ask 1; lose 0; told 6 = 3");
        edge(16, words, "in vain too", "ask 10; losable 0; ask 5 fixed; ask 1024 = NONE; told 6 = 1");
    }

    private static void toldOfNothing() {
        edge(16, "another what", "the least and the greatest are none", "ask 24; told 0 = 1000; lose 0; told 6 = 1");
        for (String what : new String[] {"-1", "7", "8", "min", "max"}) {
            edge(16, "another what", what, "told " + what + " = IllegalArgumentException");
            edge(16, "another what", what + " behind calls", """
                    ask 10; ask 20; drop 0; slide; lose 1
                    """ + "told " + what + " = IllegalArgumentException");
        }
    }

    private static void told() {
        toldOfFreeBlocks();
        toldOfHandles();
        toldOfBytesMoved();
        toldOfBlocksLost();
        toldOfNothing();
    }

    public static void main(String[] args) {
        where();
        size();
        put();
        putValues();
        noByte(13, "put ", " 1");
        get();
        noByte(14, "get ", "");
        owner();
        told();
        CHECK.finish();
    }
}
