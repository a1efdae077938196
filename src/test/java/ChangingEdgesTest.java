/**
 * The edges that promises 1 to 10 name, the calls that change the heap: each scene begins with the words of the
 * document that it tests.
 */
public final class ChangingEdgesTest {
    private static final Check CHECK = new Check();

    private static void edge(int promise, String words, String when, String rows) {
        Scene.play(CHECK, "Promise " + promise + ": " + words + ": " + when, rows);
    }

    /** A call, with "H" for its handle, on all kinds of handles that are not in use. */
    private static void noSuchHandleInUse(int promise, String call) {
        String words = "there is no such handle in use";
        for (String handle : new String[] {"-1", "48", "min", "max"}) {
            edge(promise, words, "beyond the ends", "ask 10; ask 20; " + refusal(call, handle, "IllegalArgument"));
        }
        edge(promise, words, "in a new heap", refusal(call, "0", "IllegalArgument"));
        edge(promise, words, "behind those in use", "ask 10; ask 20; " + refusal(call, "2", "IllegalArgument"));
        edge(promise, words, "the last one", "47 x ask 10; " + refusal(call, "47", "IllegalArgument"));
        edge(promise, words, "beyond the last of 48 in use", "48 x ask 10; " + refusal(call, "48", "IllegalArgument"));
        edge(promise, words, "dropped", "ask 10; ask 20; drop 0; " + refusal(call, "0", "IllegalArgument"));
        edge(promise, words, "lost and dropped", "ask 10; lose 0; drop 0; " + refusal(call, "0", "IllegalArgument"));
    }

    /** A call, with "H" for its handle, on handles that are empty by each way there is. */
    private static void empty(int promise, String call) {
        String words = "it is empty";
        edge(promise, words, "by lose", "ask 10; ask 20; lose 0; " + refusal(call, "0", "IllegalState"));
        edge(promise, words, "the last one by lose", "48 x ask 1; lose 47; " + refusal(call, "47", "IllegalState"));
        edge(promise, words, "by clear", "ask 10; losable 0; clear 1024; " + refusal(call, "0", "IllegalState"));
        edge(promise, words, "by ask", "ask 10; losable 0; ask 1024; " + refusal(call, "0", "IllegalState"));
        edge(promise, words, "by resize", """
                ask 10; ask 20; ask 994; losable 1; resize 0 11
                """ + refusal(call, "1", "IllegalState"));
    }

    private static String refusal(String call, String handle, String exception) {
        return call.replace("H", handle) + " = " + exception + "Exception\n";
    }

    // Promise 1.

    private static void newObject() {
        String words = "One free block; all handles unused.";
        edge(1, words, "all handles", "wheres = " + "NONE ".repeat(48) + "\nsizes = " + "0 ".repeat(48));
        edge(1, words, "what is told", "tells = 1024 1024 1 0 0 0 0; owner 0 = NONE; owner 1023 = NONE");
        edge(1, words, "nothing to slide or to lose", """
                slide = 1024; clear 0 = 0; clear 1024 = 0; tells = 1024 1024 1 0 0 0 0""");
        edge(1, words, "the block has all bytes",
                "ask 1024 = 0; where 0 = 0; size 0 = 1024; get 0 0 = 0; get 0 1023 = 0");
    }

    // Promise 2.

    private static void askHandle() {
        String words = "Answers its handle, the least unused one";
        edge(2, words, "one after another", "ask 5 = 0; ask 5 fixed = 1; ask 5 = 2; wheres = 0 5 10");
        edge(2, words, "the least of those dropped", """
                ask 5; ask 5; ask 5; ask 5; drop 2; drop 1; ask 6 = 1; ask 5 = 2; ask 5 = 4""");
        edge(2, words, "an empty one is not unused", "ask 5; ask 5; lose 0; ask 5 = 2; where 0 = EMPTY; where 2 = 0");
        edge(2, words, "the last one", "47 x ask 1; ask 1 = 47; ask 1 = NONE");
        edge(2, words, "one of 48 dropped", "48 x ask 1; drop 30; ask 1 = 30; drop 0; ask 1 = 0; drop 47; ask 1 = 47");
        edge(2, words, "not used up by an ask in vain",
                "ask 1000; ask 25 = NONE; where 1 = NONE; told 3 = 1; ask 24 = 1");
    }

    private static void askNone() {
        String words = "NONE when none is (this first), or there is no room";
        edge(2, words, "no handle, but bytes", "48 x ask 1; ask 1 = NONE; ask 976 = NONE; tells = 976 976 1 48 0 0 0");
        edge(2, words, "no handle, and nothing is slid for it", """
                48 x ask 20; lose 0; tells = 84 64 2 48 1 0 1; ask 70 = NONE; where 1 = 20
                tells = 84 64 2 48 1 0 1""");
        edge(2, words, "no handle, and nothing is lost for it", """
                48 x ask 20; losable 0; losable 47; ask 65 = NONE; ask 1024 = NONE; where 0 = 0; where 47 = 940
                tells = 64 64 1 48 0 0 0""");
        edge(2, words, "all handles are empty", "48 x ask 1; 48 each lose; ask 1 = NONE; told 4 = 48");
        edge(2, words, "a full heap", "ask 1024; ask 1 = NONE; tells = 0 0 0 1 0 0 0");
        edge(2, words, "a byte too few", "ask 24; ask 1001 = NONE; ask 1000 = 1");
    }

    private static void askLengths() {
        String words = "n is not 1 to 1024";
        edge(2, words, "the least", "ask 1 = 0; size 0 = 1; told 0 = 1023; get 0 1 = IndexOutOfBoundsException");
        edge(2, words, "the greatest", "ask 1024 = 0; size 0 = 1024; told 0 = 0");
        edge(2, words, "below", "ask 0 = IllegalArgumentException; ask 0 fixed = IllegalArgumentException; ask 1 = 0");
        edge(2, words, "above", "ask 1025 = IllegalArgumentException; ask 1025 fixed = IllegalArgumentException");
        edge(2, words, "far below and above", """
                ask -1 = IllegalArgumentException; ask min = IllegalArgumentException
                ask max = IllegalArgumentException""");
        edge(2, words, "nothing is slid or lost for it", """
                ask 10; ask 20; losable 1; drop 0; ask 1025 = IllegalArgumentException; ask 0 = IllegalArgumentException
                where 1 = 10; tells = 1004 994 2 1 0 0 0""");
        edge(2, words, "thrown though all handles are in use", """
                48 x ask 1; ask 0 = IllegalArgumentException; ask 1025 = IllegalArgumentException; ask 1 = NONE""");
        edge(2, words, "thrown though the heap is full", """
                ask 1024; ask 0 = IllegalArgumentException; ask 1025 = IllegalArgumentException; ask 1 = NONE""");
    }

    private static void askKinds() {
        edge(2, "A new block of n bytes.", "it isn't fixed, locked, losable by what the handle had", """
                ask 10 fixed; lock 0; losable 0; drop 0; ask 10 = 0; unlock 0 = false; unlosable 0 = false
                lift 0 = 1014""");
        edge(2, "A new block of n bytes.", "a fixed one stands where the room is, also behind a slide", """
                ask 10; ask 20; drop 0; ask 1004 fixed = 0; wheres = 20 0; lift 0 = IllegalStateException
                unlock 0 = false; unlosable 0 = false""");
    }

    // Promise 3.

    private static void drop() {
        String words = "Answers how many they were, 0 of an empty one.";
        edge(3, words, "one byte", "ask 1; drop 0 = 1; tells = 1024 1024 1 0 0 0 0");
        edge(3, words, "all bytes", "ask 1024; drop 0 = 1024; tells = 1024 1024 1 0 0 0 0");
        edge(3, words, "as many as it has by then", "ask 10; resize 0 20; drop 0 = 20; ask 10; resize 0 3; drop 0 = 3");
        edge(3, words, "an empty one", "ask 10; lose 0; drop 0 = 0; where 0 = NONE; tells = 1024 1024 1 0 0 0 1");
        edge(3, words, "an empty one beside others", """
                ask 10; ask 20; lose 0; ask 10 = 2; drop 0 = 0; wheres = NONE 10 0; tells = 994 994 1 2 0 0 1""");
        words = "The handle is unused then, its block's bytes free.";
        edge(3, words, "fixed, locked and losable ones too", """
                ask 10 fixed; ask 20; ask 30; lock 1; losable 2; drop 0 = 10; drop 1 = 20; drop 2 = 30
                wheres = NONE NONE NONE; tells = 1024 1024 1 0 0 0 0""");
        edge(3, words, "the others stay where they are", """
                ask 10; ask 20; ask 30; write 2 5 20; drop 0; wheres = NONE 10 30; drop 1; wheres = NONE NONE 30
                read 2 5 20; owner 0 = NONE; owner 29 = NONE; owner 30 = 2; told 5 = 0; told 6 = 0""");
        edge(3, words, "the last handle", "48 x ask 1; drop 47 = 1; where 47 = NONE; told 3 = 47; ask 1 = 47");
        noSuchHandleInUse(3, "drop H");
    }

    // Promise 4.

    private static void resizeToLess() {
        String words = "If n is less: it ends earlier.";
        edge(4, words, "by a byte", """
                ask 10; ask 5; write 0 1 10; resize 0 9 = true; size 0 = 9; owner 8 = 0; owner 9 = NONE; read 0 1 9
                get 0 9 = IndexOutOfBoundsException; wheres = 0 10; told 5 = 0""");
        edge(4, words, "to the last byte",
                "ask 1024; write 0 7 1; resize 0 1 = true; size 0 = 1; get 0 0 = 7; told 0 = 1023");
        edge(4, words, "a fixed one, a locked one", """
                ask 10; ask 10 fixed; ask 10; lock 2; resize 1 4 = true; resize 2 1 = true; wheres = 0 10 20
                sizes = 10 4 1; unlock 2 = true; lift 1 = IllegalStateException""");
        edge(4, words, "though there is room below",
                "ask 10; ask 10; drop 0; resize 1 9 = true; where 1 = 10; told 5 = 0");
    }

    private static void resizeToTheSame() {
        edge(4, "Answers whether it did.", "as many bytes as it has", """
                ask 10; ask 10; ask 10 fixed; ask 10; lock 3; write 1 1 10; drop 0
                resize 1 10 = true; resize 2 10 = true; resize 3 10 = true; wheres = NONE 10 20 30; read 1 1 10
                tells = 994 984 2 3 0 0 0""");
        edge(4, "Answers whether it did.", "all bytes as before", "ask 1024; resize 0 1024 = true; size 0 = 1024");
    }

    private static void resizeIntoTheFreeBlockBehind() {
        String words = "where the free block behind it has what is missing, it grows into that";
        edge(4, words, "it has just that", """
                ask 10; ask 5; ask 10; write 0 1 10; write 1 50 5; drop 1; resize 0 15 = true
                wheres = 0 NONE 15; size 0 = 15; read 0 1 10; zero 0 10 15; tells = 999 999 1 2 0 0 0""");
        edge(4, words, "it has a byte more", """
                ask 10; ask 5; ask 10; drop 1; resize 0 14 = true; where 0 = 0; owner 14 = NONE; told 2 = 2
                told 5 = 0""");
        edge(4, words, "it has a byte less", """
                ask 10; ask 5; ask 10; write 0 1 10; drop 1; resize 0 16 = true; where 0 = 25; read 0 1 10
                zero 0 10 16; told 5 = 10""");
        edge(4, words, "to the end of the heap",
                "ask 10; ask 10; resize 1 1014 = true; where 1 = 10; told 0 = 0; told 5 = 0");
        edge(4, words, "from one byte to all",
                "ask 1; put 0 0 9; resize 0 1024 = true; get 0 0 = 9; get 0 1023 = 0; told 5 = 0");
        edge(4, words, "rather than into a free one below", """
                ask 50; ask 10; drop 0; resize 1 20 = true; where 1 = 50; told 5 = 0""");
        edge(4, words, "a fixed one, a locked one", """
                ask 10 fixed; ask 5; ask 10; ask 5; ask 5; lock 2; drop 1; drop 3
                resize 0 15 = true; resize 2 15 = true; wheres = 0 NONE 15; sizes = 15 0 15; told 5 = 0""");
        edge(4, words, "the free one before it does not count",
                "ask 10; ask 10; ask 1004; drop 0; resize 1 11 = false");
        edge(4, "its first ones staying, new ones 0", "less and then more", """
                ask 10; write 0 1 10; resize 0 4 = true; resize 0 10 = true; read 0 1 4; zero 0 4 10""");
    }

    private static void resizeOfWhatStandsFast() {
        String words = "else, if it isn't fixed nor locked";
        String blocks = "ask 10; ask 20; ask 30 fixed; ask 5; ask 20; losable 1; losable 2; drop 0; drop 3\n";
        edge(4, words, "fixed, and nothing is slid or lost for it", blocks + """
                resize 2 36 = false; wheres = NONE 10 30 NONE 65; size 2 = 30; tells = 954 939 3 3 0 0 0
                resize 2 35 = true""");
        edge(4, words, "locked, and nothing is slid or lost for it", blocks + """
                lock 1; resize 1 21 = false; resize 1 1024 = false; wheres = NONE 10 30 NONE 65; size 1 = 20
                tells = 954 939 3 3 0 0 0""");
        edge(4, words, "locked no more",
                blocks + "lock 1; resize 1 21 = false; unlock 1; resize 1 21 = true; where 1 = 85");
        edge(4, words, "fixed and locked",
                "ask 10 fixed; ask 10; lock 0; resize 0 11 = false; unlock 0; resize 0 11 = false");
        edge(4, words, "at the end of the heap",
                "ask 10; ask 1014 fixed; drop 0; resize 1 1015 = false; resize 1 1024 = false");
    }

    private static void resizeElsewhere() {
        String words = "there is room for n (with the block where it is), and it goes there, its old bytes being free";
        edge(4, words, "below, in just n bytes", """
                ask 30; ask 20; ask 10; write 1 5 20; drop 0; resize 1 30 = true; where 1 = 0; read 1 5 20; zero 1 20 30
                owner 30 = NONE; owner 49 = NONE; where 2 = 50; tells = 984 964 2 2 0 20 0""");
        edge(4, words, "not in n - 1 bytes below", """
                ask 30; ask 20; ask 10; drop 0; resize 1 31 = true; where 1 = 60; tells = 983 933 2 2 0 20 0""");
        edge(4, words, "its own bytes and those beside it are not room", """
                ask 10; ask 20; ask 994; drop 0; resize 1 30 = false; where 1 = 0; size 1 = 20
                tells = 10 10 1 2 0 1014 0
                resize 1 21 = false; resize 1 20 = true""");
        edge(4, words, "it stands alone, and half of the heap is too little", """
                ask 1; ask 512; drop 0; resize 1 512 = true; resize 1 1024 = false; where 1 = 0; told 5 = 512
                resize 1 1024 = true; told 5 = 512""");
        edge(4, words, "slid in vain, then it grows where it is", """
                ask 10; ask 20; ask 10; ask 30 fixed; ask 15; ask 939; write 1 5 20; drop 0; drop 2; drop 4
                resize 1 31 = false; wheres = NONE 0 NONE 40 NONE 70; tells = 35 20 2 3 0 959 0; resize 1 40 = true""");
        edge(4, words, "slid, then room behind the others", """
                ask 10; ask 20; ask 974; ask 20; write 1 5 20; drop 0; drop 3; resize 1 30 = true
                wheres = NONE 994 20; read 1 5 20; zero 1 20 30; tells = 20 20 1 2 0 1014 0""");
        edge(4, words, "it stays losable, and is neither fixed nor locked", """
                ask 10; ask 10; losable 0; resize 0 11 = true; where 0 = 20; unlock 0 = false; unlosable 0 = true
                lift 0 = 993""");
    }

    private static void resizeInVain() {
        edge(4, "else not.", "its bytes and their number stay", """
                ask 10; ask 1014; write 0 1 10; losable 0; resize 0 11 = false; resize 0 1024 = false; size 0 = 10
                read 0 1 10; wheres = 0 10; unlosable 0 = true; tells = 0 0 0 2 0 0 0""");
        edge(4, "else not.", "all of a full heap", "ask 1024; resize 0 1023 = true; resize 0 1024 = true; told 0 = 0");
    }

    private static void resizeOfAnEmptyOne() {
        String words = "(An empty handle gets a new block that isn't fixed, nor locked, "
                + "nor losable, where there is room.)";
        edge(4, words, "one byte",
                "ask 10; lose 0; resize 0 1 = true; where 0 = 0; size 0 = 1; tells = 1023 1023 1 1 0 0 1");
        edge(4, words, "all bytes",
                "ask 10; lose 0; resize 0 1024 = true; where 0 = 0; size 0 = 1024; tells = 0 0 0 1 0 0 1");
        edge(4, words, "it was losable before", """
                ask 10; losable 0; lose 0; resize 0 10 = true; unlosable 0 = false; unlock 0 = false; lift 0 = 1014""");
        edge(4, words, "no room: it stays empty", """
                ask 10; ask 20; lose 0; ask 1004 = 2; resize 0 1 = false; where 0 = EMPTY; size 0 = 0; told 4 = 1""");
        edge(4, words, "just room, by a slide", """
                ask 10; ask 20; lose 0; resize 0 1005 = false; where 1 = 0; resize 0 1004 = true; where 0 = 20
                tells = 0 0 0 2 0 20 1""");
        edge(4, words, "just room, by a loss", """
                ask 10; ask 20; ask 994; losable 1; lose 0; resize 0 30 = true; wheres = 994 EMPTY 0; zero 0 0 30
                tells = 0 0 0 3 1 2008 2""");
        edge(4, words, "though all 48 handles are in use",
                "48 x ask 1; lose 5; resize 5 977 = true; told 3 = 48; told 0 = 0");
    }

    private static void resizeRefused() {
        String words = "n is not 1 to 1024";
        for (String n : new String[] {"0", "-1", "1025", "min", "max"}) {
            String refused = n + " = IllegalArgumentException\n";
            edge(4, words, n + " of a block", "ask 10; ask 10; write 0 1 10; resize 0 " + refused + "read 0 1 10");
            edge(4, words, n + " of a fixed, a locked one", """
                    ask 10 fixed; ask 10; lock 1
                    """ + "resize 0 " + refused + "resize 1 " + refused);
            edge(4, words, n + " of an empty one", "ask 10; lose 0; resize 0 " + refused + "where 0 = EMPTY");
            edge(4, words, n + " of none", "resize 0 " + refused + "resize 48 " + refused);
        }
        noSuchHandleInUse(4, "resize H 10");
        noSuchHandleInUse(4, "resize H 1024");
    }

    // Promises 5 and 6.

    private static void lock() {
        String words = "Locks, or not. Answers whether it was locked.";
        edge(5, words, "on and off, each twice",
                "ask 1; lock 0 = false; lock 0 = true; unlock 0 = true; unlock 0 = false");
        edge(5, words, "once off is off", "ask 1; lock 0; lock 0; unlock 0 = true; lift 0 = 1023");
        edge(5, words, "a fixed one", "ask 1 fixed; unlock 0 = false; lock 0 = false; unlock 0 = true; lose 0 = false");
        edge(5, words, "each for itself", "ask 1; ask 1; lock 0; unlock 1 = false; unlock 0 = true");
        edge(5, words, "the last handle",
                "48 x ask 1; lock 47 = false; unlock 46 = false; lift 47 = IllegalStateException");
        edge(5, words, "a new block of a dropped handle", "ask 1; lock 0; drop 0; ask 1 = 0; unlock 0 = false");
        edge(5, words, "a new size", "ask 1; ask 1; lock 0; resize 1 5; resize 0 1; unlock 0 = true; unlock 1 = false");
        noSuchHandleInUse(5, "lock H");
        noSuchHandleInUse(5, "unlock H");
        empty(5, "lock H");
        empty(5, "unlock H");
        edge(5, "it is empty", "no lock comes over it", """
                ask 10; lose 0; lock 0 = IllegalStateException; resize 0 10; unlock 0 = false""");
    }

    private static void losable() {
        String words = "May be lost, or not. Answers whether it might before.";
        edge(6, words, "on and off, each twice", """
                ask 1; unlosable 0 = false; losable 0 = false; losable 0 = true; unlosable 0 = true
                unlosable 0 = false""");
        edge(6, words, "then it is lost, or not", """
                ask 10; ask 20; losable 1; losable 0; unlosable 1; clear 1024 = 1; wheres = EMPTY 0""");
        edge(6, words, "a fixed and a locked one, which are not lost", """
                ask 10 fixed; ask 10; lock 1; losable 0 = false; losable 1 = false; losable 0 = true; losable 1 = true
                clear 1024 = 0; unlock 1; clear 1024 = 1; wheres = 0 EMPTY""");
        edge(6, words, "each for itself", "ask 1; ask 1; losable 0; unlosable 1 = false; unlosable 0 = true");
        edge(6, words, "the last handle",
                "48 x ask 1; losable 47 = false; unlosable 46 = false; clear 1024 = 1; where 47 = EMPTY");
        edge(6, words, "a new block of a dropped handle", "ask 1; losable 0; drop 0; ask 1 = 0; unlosable 0 = false");
        edge(6, words, "slid and lifted", "ask 5; ask 1; losable 1; drop 0; lift 1; slide; unlosable 1 = true");
        noSuchHandleInUse(6, "losable H");
        noSuchHandleInUse(6, "unlosable H");
        empty(6, "losable H");
        empty(6, "unlosable H");
        edge(6, "it is empty", "no leave comes over it", """
                ask 10; lose 0; losable 0 = IllegalStateException; resize 0 10; unlosable 0 = false""");
    }

    // Promise 7.

    private static void lose() {
        String words = "The block is lost, if it is movable. Answers whether it was.";
        edge(7, words, "losable or not", """
                ask 10; ask 20; losable 0; lose 0 = true; lose 1 = true; wheres = EMPTY EMPTY
                tells = 1024 1024 1 2 2 0 2""");
        edge(7, words, "one byte", "ask 1; lose 0 = true; tells = 1024 1024 1 1 1 0 1");
        edge(7, words, "all bytes", "ask 1024; lose 0 = true; tells = 1024 1024 1 1 1 0 1");
        edge(7, words, "fixed",
                "ask 10 fixed; losable 0; lose 0 = false; where 0 = 0; size 0 = 10; tells = 1014 1014 1 1 0 0 0");
        edge(7, words, "locked",
                "ask 10; losable 0; lock 0; lose 0 = false; where 0 = 0; told 6 = 0; unlock 0; lose 0 = true");
        edge(7, words, "nothing is slid", "ask 10; ask 20; lose 0 = true; wheres = EMPTY 10; told 5 = 0");
        edge(7, words, "the last handle", "48 x ask 1; lose 47 = true; where 47 = EMPTY; told 3 = 48; told 4 = 1");
        noSuchHandleInUse(7, "lose H");
        empty(7, "lose H");
    }

    // Promise 8.

    private static void lift() {
        String words = "The block changes places with the free block that stands behind it, if there is one.";
        edge(8, words, "by one byte", """
                ask 10; ask 1; ask 10; write 0 1 10; drop 1; lift 0 = 1; where 0 = 1; owner 0 = NONE; owner 10 = 0
                read 0 1 10; told 5 = 10""");
        edge(8, words, "to the last byte", """
                ask 1; put 0 0 9; lift 0 = 1023; where 0 = 1023; get 0 0 = 9; owner 1023 = 0; owner 1022 = NONE
                tells = 1023 1023 1 1 0 1 0; lift 0 = 0""");
        edge(8, words, "by fewer bytes than it has, and by more", """
                ask 10; ask 4; ask 6; ask 30; ask 5; write 0 1 10; write 2 50 6; drop 1; drop 3
                lift 2 = 30; read 2 50 6; lift 0 = 34; read 0 1 10; wheres = 34 NONE 44; told 5 = 16""");
        edge(8, words, "not over the block behind that",
                "ask 10; ask 5; ask 10; drop 1; lift 0 = 5; lift 0 = 0; where 2 = 15");
        words = "Answers by how many bytes it is higher then.";
        edge(8, words, "none behind it", "ask 10; ask 10; ask 5; drop 2; lift 0 = 0; wheres = 0 10; told 5 = 0");
        edge(8, words, "a free one before it only", "ask 10; ask 1014; drop 0; lift 1 = 0; where 1 = 10; told 5 = 0");
        edge(8, words, "at the end of the heap", "ask 10; ask 1014; lift 1 = 0; where 1 = 10; told 5 = 0");
        edge(8, words, "it has all bytes", "ask 1024; lift 0 = 0; where 0 = 0; told 5 = 0");
    }

    private static void liftRefused() {
        String words = "it is empty, or not movable";
        edge(8, words, "fixed", "ask 10 fixed; lift 0 = IllegalStateException; where 0 = 0");
        edge(8, words, "locked, and then not",
                "ask 10; lock 0; lift 0 = IllegalStateException; unlock 0; lift 0 = 1014");
        edge(8, words, "fixed and unlocked", "ask 10 fixed; lock 0; unlock 0; lift 0 = IllegalStateException");
        edge(8, words, "not movable, and no free block behind it", """
                ask 10 fixed; ask 1014; lock 1; lift 0 = IllegalStateException; lift 1 = IllegalStateException""");
        noSuchHandleInUse(8, "lift H");
        empty(8, "lift H");
    }

    // Promise 9.

    private static void slide() {
        String words = "Answers how many bytes the greatest free block has then.";
        edge(9, words, "a new heap", "slide = 1024");
        edge(9, words, "a full heap", "ask 1024; slide = 0");
        edge(9, words, "one byte free", "ask 1023; slide = 1");
        edge(9, words, "not the last one", "ask 900; ask 10 fixed; ask 24; drop 0; slide = 900; told 0 = 990");
        edge(9, words, "not the first one", "ask 10; ask 10 fixed; drop 0; slide = 1004");
        edge(9, words, "between blocks that stand fast", """
                ask 10; ask 10 fixed; ask 500; ask 10 fixed; ask 494 fixed; drop 0; drop 2; slide = 500; told 2 = 2""");
        edge(9, words, "not all that is free",
                "ask 10; ask 10 fixed; ask 5; drop 0; drop 2; slide = 1004; told 0 = 1014");
        edge(9, "The heap is slid together.", "nothing is lost", """
                ask 10; ask 20; ask 30; losable 1; losable 2; drop 0; slide = 974; wheres = NONE 0 20; told 6 = 0
                unlosable 1 = true""");
    }

    // Promise 10.

    private static void clearUntil() {
        String words = "until the greatest free block has n bytes, or there is none more";
        String blocks = "ask 100; ask 100; ask 100; ask 100; drop 0; losable 1; losable 2; losable 3\n";
        edge(10, words, "it has just n: nothing is slid", blocks + """
                clear 624 = 0; wheres = NONE 100 200 300; tells = 724 624 2 3 0 0 0""");
        edge(10, words, "it has a byte less: one is lost, though a slide would do", blocks + """
                clear 625 = 1; wheres = NONE EMPTY 0 100; tells = 824 824 1 3 1 200 1""");
        edge(10, words, "the first gives just n", blocks + "clear 824 = 1; told 6 = 1");
        edge(10, words, "the first gives a byte less",
                blocks + "clear 825 = 2; wheres = NONE EMPTY EMPTY 0; told 5 = 300");
        edge(10, words, "all of them give just n", blocks + "clear 1024 = 3; tells = 1024 1024 1 3 3 300 3");
        edge(10, words, "the greatest is not the last", """
                ask 500; ask 24 fixed; ask 400; ask 100; losable 2; drop 0; clear 500 = 0; clear 501 = 1
                told 6 = 1""");
        edge(10, words, "not all that is free together", """
                ask 500; ask 24 fixed; ask 500; losable 2; drop 0; clear 501 = 1; tells = 1000 500 2 2 1 0 1""");
        edge(10, words, "none at all: nothing is slid", """
                ask 10; ask 20; drop 0; clear 1024 = 0; where 1 = 10; tells = 1004 994 2 1 0 0 0""");
        edge(10, words, "a new heap", "clear 0 = 0; clear 1 = 0; clear 1024 = 0; tells = 1024 1024 1 0 0 0 0");
        edge(10, words, "a full heap has none of 1 byte", "ask 1000; ask 24; losable 1; clear 1 = 1; wheres = 0 EMPTY");
        edge(10, words, "a full heap has 0 bytes", "ask 1000; ask 24; losable 1; clear 0 = 0; wheres = 0 1000");
        edge(10, words, "a full heap and none to lose",
                "ask 1000; ask 24; clear 1 = 0; clear 1024 = 0; wheres = 0 1000");
    }

    private static void clearWhich() {
        String words = "Blocks that are losable and movable are lost, from byte 0 on, and the heap slid behind each";
        edge(10, words, "others before it are not losable, locked, fixed", """
                ask 100; ask 100; ask 100 fixed; ask 724; losable 1; lock 1; losable 2; losable 3
                clear 1024 = 1; wheres = 0 100 200 EMPTY; tells = 724 724 1 4 1 0 1""");
        edge(10, words, "the first in the heap has a greater handle than the second", """
                ask 10; ask 500; drop 0; ask 514 = 0; losable 0; losable 1; clear 11 = 1; wheres = 0 EMPTY""");
        edge(10, words, "each slide counts", """
                ask 10; ask 20; ask 30; ask 964; losable 0; losable 1; losable 2; write 3 7 20
                clear 60 = 3; where 3 = 0; read 3 7 20; tells = 60 60 1 4 3 2972 3""");
        edge(10, words, "the last one lost is slid behind too", """
                ask 10; ask 20; ask 30; losable 0; clear 1024 = 1; wheres = EMPTY 0 20; told 5 = 50""");
        edge(10, words, "all 48 of them", """
                48 x ask 10; 48 each losable
                clear 1024 = 48; tells = 1024 1024 1 48 48 11280 48""");
        edge(10, "Answers how many were lost.", "in this call, not since the beginning", """
                ask 10; ask 20; lose 0; losable 1; clear 1024 = 1; clear 1024 = 0; told 6 = 2""");
    }

    private static void clearRefused() {
        String words = "n is not 0 to 1024";
        edge(10, words, "the least", "ask 10; losable 0; clear 0 = 0; where 0 = 0");
        edge(10, words, "the greatest", "ask 10; losable 0; clear 1024 = 1; where 0 = EMPTY");
        for (String n : new String[] {"-1", "1025", "min", "max"}) {
            String refused = "clear " + n + " = IllegalArgumentException\n";
            edge(10, words, "a new heap", refused);
            edge(10, words, "one to lose, one to slide",
                    "ask 10; ask 20; drop 0; losable 1; " + refused + "where 1 = 10");
            edge(10, words, "a full heap", "ask 1024; losable 0; " + refused + "where 0 = 0");
        }
    }

    private static void ask() {
        askHandle();
        askNone();
        askLengths();
        askKinds();
    }

    private static void resize() {
        resizeToLess();
        resizeToTheSame();
        resizeIntoTheFreeBlockBehind();
        resizeOfWhatStandsFast();
        resizeElsewhere();
        resizeInVain();
        resizeOfAnEmptyOne();
        resizeRefused();
    }

    public static void main(String[] args) {
        newObject();
        ask();
        drop();
        resize();
        lock();
        losable();
        lose();
        lift();
        liftRefused();
        slide();
        clearUntil();
        clearWhich();
        clearRefused();
        CHECK.finish();
    }
}
