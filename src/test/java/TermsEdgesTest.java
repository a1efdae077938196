/** The edges that the sentences under "Terms" name: each scene begins with the words of the document that it tests. */
public final class TermsEdgesTest {
    private static final Check CHECK = new Check();

    private static void edge(String words, String when, String rows) {
        Scene.play(CHECK, "Terms: " + words + ": " + when, rows);
    }

    // The heap, its blocks and its handles.

    private static void bytes() {
        String words = "THE HEAP has 1024 BYTES, 0 to 1023";
        edge(words, "one block of all", """
                ask 1024 = 0; owner 0 = 0; owner 1023 = 0
                put 0 0 1 = 0; put 0 1023 2 = 0; get 0 0 = 1; get 0 1023 = 2
                owner -1 = IndexOutOfBoundsException; owner 1024 = IndexOutOfBoundsException
                tells = 0 0 0 1 0 0 0""");
        edge(words, "all but one byte, then that one", """
                ask 1023 = 0; owner 1022 = 0; owner 1023 = NONE; tells = 1 1 1 1 0 0 0
                ask 1 = 1; where 1 = 1023; owner 1023 = 1; tells = 0 0 0 2 0 0 0; ask 1 = NONE""");
        edge("in BLOCKS that stand behind one another from byte 0 on, and fill it", "three of them", """
                ask 1 = 0; ask 1022 = 1; ask 1 = 2; wheres = 0 1 1023; sizes = 1 1022 1
                owner 0 = 0; owner 1 = 1; owner 1022 = 1; owner 1023 = 2; tells = 0 0 0 3 0 0 0""");
    }

    private static void freeBlocksMeet() {
        String words = "FREE ones, never two beside one another";
        edge(words, "a drop before a free one", """
                ask 10; ask 20; ask 30; drop 1; drop 0 = 10; tells = 994 964 2 1 0 0 0; ask 30 = 0; where 0 = 0""");
        edge(words, "a drop behind a free one", """
                ask 10; ask 20; ask 30; drop 0; drop 1 = 20; tells = 994 964 2 1 0 0 0; ask 30 = 0; where 0 = 0""");
        edge(words, "a drop between free ones", """
                ask 10; ask 20; ask 30; ask 40; drop 0; drop 2; tells = 964 924 3 2 0 0 0
                drop 1 = 20; tells = 984 924 2 1 0 0 0; ask 60 = 0; where 0 = 0""");
        edge(words, "a drop before the end of the heap", """
                ask 10; ask 1014; drop 1 = 1014; tells = 1014 1014 1 1 0 0 0""");
        edge(words, "a loss between free ones", """
                ask 10; ask 20; ask 30; ask 40; drop 0; drop 2; lose 1 = true
                tells = 984 924 2 2 1 0 1; ask 60 = 0; where 0 = 0""");
    }

    private static void freeBlocksMeetWhereBlocksChange() {
        String words = "FREE ones, never two beside one another";
        edge(words, "a block ends earlier before a free one", """
                ask 10; ask 20; ask 30; drop 1; tells = 984 964 2 2 0 0 0
                resize 0 1 = true; tells = 993 964 2 2 0 0 0; ask 29 = 1; where 1 = 1""");
        edge(words, "a block ends earlier before another block", """
                ask 10; ask 20; resize 0 9 = true; tells = 995 994 2 2 0 0 0; owner 9 = NONE; where 1 = 10""");
        edge(words, "a block grows into all of a free one", """
                ask 10; ask 20; ask 30; drop 1; resize 0 30 = true; tells = 964 964 1 2 0 0 0""");
        edge(words, "a block goes away from between free ones", """
                ask 10; ask 20; ask 30; ask 40; drop 0; drop 2; resize 1 51 = true; where 1 = 100
                tells = 933 873 2 2 0 20 0; ask 60 = 0; where 0 = 0""");
        edge(words, "a block is lifted from between free ones", """
                ask 10; ask 20; ask 30; ask 40; drop 0; drop 2; lift 1 = 30; where 1 = 40
                tells = 964 924 2 2 0 20 0; ask 40 = 0; where 0 = 0""");
    }

    private static void handles() {
        String words = "ones that are known by a HANDLE, 0 to 47";
        edge(words, "all of them", """
                48 x ask 1
                where 0 = 0; where 47 = 47; size 47 = 1; owner 0 = 0; owner 47 = 47; owner 48 = NONE
                tells = 976 976 1 48 0 0 0; ask 1 = NONE; tells = 976 976 1 48 0 0 0""");
        edge(words, "the last one takes part in all", """
                48 x ask 2
                put 47 1 255 = 0; get 47 1 = 255; lock 47 = false; unlock 47 = true; losable 47 = false
                resize 47 3 = true; lift 47 = 927; where 47 = 1021; slide = 927; where 47 = 94
                clear 1024 = 1; where 47 = EMPTY; resize 47 930 = true; where 47 = 94; size 47 = 930
                lose 47 = true; drop 47 = 0; where 47 = NONE; ask 1 = 47""");
        edge(words, "one beyond either end", """
                48 x ask 1
                where -1 = IllegalArgumentException; where 48 = IllegalArgumentException
                drop -1 = IllegalArgumentException; drop 48 = IllegalArgumentException""");
        edge("A handle is UNUSED, EMPTY, or has a block of 1 byte at least.", "one handle in all states", """
                where 0 = NONE; size 0 = 0; told 3 = 0; told 4 = 0
                ask 1 = 0; where 0 = 0; size 0 = 1; told 3 = 1; told 4 = 0
                lose 0 = true; where 0 = EMPTY; size 0 = 0; told 3 = 1; told 4 = 1
                resize 0 1 = true; where 0 = 0; size 0 = 1; told 3 = 1; told 4 = 0
                resize 0 0 = IllegalArgumentException; size 0 = 1
                drop 0 = 1; where 0 = NONE; size 0 = 0; told 3 = 0; told 4 = 0
                ask 0 = IllegalArgumentException; where 0 = NONE""");
    }

    private static void kinds() {
        edge("FIXED (it was asked for so, always)", "whatever is done with it", """
                ask 10; ask 20 fixed = 1; drop 0
                slide = 994; where 1 = 10; lose 1 = false; lift 1 = IllegalStateException
                unlock 1 = false; slide = 994; where 1 = 10; lock 1 = false; unlock 1 = true; slide = 994; where 1 = 10
                resize 1 5 = true; resize 1 25 = true; slide = 989; where 1 = 10; lose 1 = false
                losable 1 = false; clear 1024 = 0; where 1 = 10""");
        edge("LOCKED (for a time)", "while it is, and then", """
                ask 10; ask 20; drop 0; lock 1 = false
                slide = 994; where 1 = 10; lose 1 = false; lift 1 = IllegalStateException
                resize 1 1014 = true; resize 1 1015 = false; resize 1 20 = true; where 1 = 10
                unlock 1 = true; slide = 1004; where 1 = 0; lift 1 = 1004; lose 1 = true""");
        edge("it is MOVABLE if it is neither fixed nor locked", "slid: neither, fixed, locked, both", """
                ask 5; ask 10; ask 5; ask 10 fixed; ask 5; ask 10; ask 5; ask 10 fixed; lock 5; lock 7
                drop 0; drop 2; drop 4; drop 6; slide = 964; wheres = NONE 0 NONE 20 NONE 35 NONE 50; told 5 = 10""");
        edge("it is MOVABLE if it is neither fixed nor locked", "lifted and lost: neither, fixed, locked, both", """
                ask 10; ask 5; ask 10 fixed; ask 5; ask 10; ask 5; ask 10 fixed; ask 5; lock 4; lock 6
                drop 1; drop 3; drop 5; drop 7
                lift 2 = IllegalStateException; lift 4 = IllegalStateException; lift 6 = IllegalStateException
                lose 2 = false; lose 4 = false; lose 6 = false; lift 0 = 5; lose 0 = true""");
    }

    // To slide, to lose.

    private static void slideDown() {
        String words = "goes down to the end of the block with a handle before it (or byte 0)";
        edge(words, "the first one and one behind it", """
                ask 1; ask 10; ask 1; ask 20; drop 0; drop 2; write 1 100 10; write 3 50 20
                slide = 994; wheres = NONE 0 NONE 10; read 1 100 10; read 3 50 20; told 5 = 30""");
        edge(words, "one that stands there is not moved", """
                ask 10; ask 20; ask 30; drop 1; slide = 984; wheres = 0 NONE 10; told 5 = 30; slide = 984
                told 5 = 30""");
        edge(words, "in the order of the heap, not of the handles", """
                ask 10; ask 10; ask 10; drop 0; ask 20 = 0; drop 1; slide = 994; wheres = 10 NONE 0; told 5 = 30""");
        edge(words, "nothing is there", "slide = 1024; tells = 1024 1024 1 0 0 0 0");
        edge(words, "the heap is full", "ask 1000; ask 24; slide = 0; wheres = 0 1000; tells = 0 0 0 2 0 0 0");
        edge(words, "a great one by one byte", """
                ask 1; ask 1023; write 1 9 3; put 1 1022 77; drop 0; slide = 1; where 1 = 0
                read 1 9 3; get 1 1022 = 77; told 5 = 1023""");
        edge(words, "from the last byte to the first", """
                ask 1; put 0 0 200; lift 0 = 1023; where 0 = 1023; slide = 1023; where 0 = 0; get 0 0 = 200""");
    }

    private static void slideRoundWhatStandsFast() {
        String words = "goes down to the end of the block with a handle before it (or byte 0)";
        edge(words, "not past a fixed one, though the free one before that has its length", """
                ask 20; ask 10 fixed; ask 5; ask 20; drop 0; drop 2; slide = 974
                where 1 = 20; where 3 = 30; tells = 994 974 2 2 0 20 0""");
        edge(words, "to the end of a locked one", """
                ask 3; ask 10; ask 5; ask 20; lock 1; drop 0; drop 2; slide = 991; wheres = NONE 3 NONE 13
                unlock 1; slide = 994; wheres = NONE 0 NONE 10; told 5 = 50""");
        edge("free blocks are what lies between", "before and behind one that stands fast", """
                ask 10; ask 20 fixed; ask 30; drop 0; drop 2; slide = 994; where 1 = 10; tells = 1004 994 2 1 0 0 0""");
        edge("free blocks are what lies between", "nothing is movable", """
                ask 3; ask 10 fixed; ask 5; ask 20; lock 3; drop 0; drop 2; slide = 986
                wheres = NONE 3 NONE 18; tells = 994 986 3 2 0 0 0""");
    }

    private static void lose() {
        edge("its handle is empty, its bytes are free", "in a heap that is full", """
                ask 10; ask 20; ask 994; lose 1 = true; where 1 = EMPTY; size 1 = 0
                owner 9 = 0; owner 10 = NONE; owner 29 = NONE; owner 30 = 2; tells = 20 20 1 3 1 0 1
                get 1 0 = IllegalStateException; ask 20 = 3; where 3 = 10""");
    }

    // Room.

    private static void roomAsItIs() {
        String words = "the first free block from byte 0 on that has n";
        edge(words, "it has just n", """
                ask 10; ask 5; ask 20; ask 5; drop 0; drop 2; ask 10 = 0; where 0 = 0; told 5 = 0""");
        edge(words, "it has a byte less, the next is taken", """
                ask 10; ask 5; ask 20; ask 5; drop 0; drop 2; ask 11 = 0; where 0 = 15; told 5 = 0""");
        edge(words, "not the one that fits best", """
                ask 20; ask 5; ask 10; ask 5; drop 0; drop 2; ask 10 = 0; where 0 = 0; told 2 = 3""");
        edge(words, "the last one, to its last byte", """
                ask 20; ask 5; drop 0; ask 999 = 0; where 0 = 25; owner 1023 = 0; tells = 20 20 1 2 0 0 0""");
        edge(words, "nothing is slid or lost while there is one", """
                ask 10; ask 20; ask 30; losable 1; losable 2; drop 0; ask 964 = 0
                wheres = 60 10 30; tells = 10 10 1 3 0 0 0""");
        edge(words, "the heap is full", "ask 1024; ask 1 = NONE; tells = 0 0 0 1 0 0 0");
    }

    private static void roomBySliding() {
        String words = "else the heap is slid together, and again the first one";
        edge(words, "it has just n, and nothing is lost", """
                ask 10; ask 20; ask 30; losable 1; losable 2; drop 0; ask 974 = 0
                wheres = 50 0 20; tells = 0 0 0 3 0 50 0""");
        edge(words, "it has a byte less", """
                ask 10; ask 20; ask 30; drop 0; ask 975 = NONE; wheres = NONE 0 20; tells = 974 974 1 2 0 50 0""");
        edge(words, "several have n then", """
                ask 10; ask 5; ask 10; ask 100 fixed; ask 10; ask 5; ask 10; ask 874 fixed
                drop 0; drop 2; drop 4; drop 6; tells = 40 10 4 4 0 0 0; ask 15 = 0
                wheres = 5 0 NONE 25 NONE 125 NONE 150; tells = 25 20 2 5 0 10 0""");
        edge(words, "a locked one is in the way", """
                ask 10; ask 20; ask 984; ask 10; lock 1; drop 0; drop 3; ask 20 = NONE
                wheres = NONE 10 30; tells = 20 10 2 2 0 0 0; unlock 1; ask 20 = 0; where 0 = 1004""");
    }

    private static void roomByLosing() {
        String words = "else of the blocks that are losable and movable (but that of the handle that asks) "
                + "the first one from byte 0 on is lost";
        edge(words, "the first in the heap has a greater handle than the second", """
                ask 10; ask 500; drop 0; ask 514 = 0; wheres = 510 10; losable 0; losable 1
                ask 100 = 2; wheres = 0 EMPTY 514; tells = 410 410 1 3 1 1528 1""");
        edge(words, "others before it are not losable, locked, fixed", """
                ask 100; ask 100; ask 100 fixed; ask 724; losable 1; lock 1; losable 2; losable 3
                ask 50 = 4; wheres = 0 100 200 EMPTY 300; tells = 674 674 1 5 1 0 1""");
        edge(words, "none is both", """
                ask 100; ask 100; ask 100 fixed; ask 724; losable 1; lock 1; losable 2
                ask 1 = NONE; wheres = 0 100 200 300; tells = 0 0 0 4 0 0 0""");
        edge(words, "only that of the handle that asks", """
                ask 100; ask 924; losable 0; resize 0 101 = false; wheres = 0 100; tells = 0 0 0 2 0 0 0""");
        edge(words, "one behind that of the handle that asks", """
                ask 100; ask 200; ask 724; losable 0; losable 1; resize 0 150 = true
                wheres = 824 EMPTY 100; tells = 150 100 2 3 1 824 1; unlosable 0 = true""");
    }

    private static void roomByLosingAndSliding() {
        String words = "the heap slid together, and looked again";
        edge(words, "slid though the bytes of the one lost would do", """
                ask 100; ask 100; ask 824; losable 1; ask 100 = 3; wheres = 0 EMPTY 100 924
                tells = 0 0 0 4 1 824 1""");
        edge(words, "the bytes of one lost before a fixed one", """
                ask 100; ask 924 fixed; losable 0; ask 60 = 2; wheres = EMPTY 100 0; tells = 40 40 1 3 1 0 1""");
        String blocks = "ask 10; ask 20; ask 30; ask 964 fixed; losable 0; losable 1; losable 2; losable 3\n";
        edge("as long as there is such a block", "the first gives just n", blocks + """
                ask 10 = 4; wheres = EMPTY 0 20 60 50; tells = 0 0 0 5 1 50 1""");
        edge("as long as there is such a block", "the first gives a byte less", blocks + """
                ask 11 = 4; wheres = EMPTY EMPTY 0 60 30; tells = 19 19 1 5 2 80 2""");
        edge("as long as there is such a block", "all of them give just n", blocks + """
                ask 60 = 4; wheres = EMPTY EMPTY EMPTY 60 0; tells = 0 0 0 5 3 80 3""");
        edge("else there is none (what was lost and slid stays so)", "all of them give a byte less", blocks + """
                ask 61 = NONE; wheres = EMPTY EMPTY EMPTY 60 NONE; tells = 60 60 1 4 3 80 3""");
        edge("else there is none (what was lost and slid stays so)", "there were never so many bytes", """
                ask 10; ask 20; ask 30; losable 1; lock 2; drop 0; ask 1024 = NONE
                wheres = NONE EMPTY 30; tells = 994 964 2 2 1 20 1""");
        edge("else there is none (what was lost and slid stays so)", "a block that asks in vain is slid too", """
                ask 10; ask 20; ask 30; ask 964 fixed; losable 2; drop 0; write 1 5 20
                resize 1 50 = false; wheres = NONE 0 EMPTY 60; tells = 40 40 1 3 1 50 1; read 1 5 20""");
    }

    private static void roomByLosingAll() {
        String words = "as long as there is such a block";
        edge(words, "47 of them, to the last byte", """
                47 x ask 20; 47 each losable
                ask 1024 = 47; where 0 = EMPTY; where 46 = EMPTY; where 47 = 0; size 47 = 1024
                tells = 0 0 0 48 47 21620 47""");
        edge(words, "all but the last of 47", """
                47 x ask 20; 46 each losable
                ask 1004 = 47; where 45 = EMPTY; where 46 = 0; where 47 = 20; told 6 = 46; told 0 = 0""");
        edge(words, "47 of them for a handle that is empty", """
                48 x ask 20; 48 each losable
                lose 20 = true; resize 20 1024 = true; where 20 = 0; size 20 = 1024; told 4 = 47; told 6 = 48""");
    }

    // A new block.

    private static void newBlock() {
        String words = "A new block is the lower end of the room found; the rest stays free.";
        edge(words, "in a new heap", """
                ask 1 = 0; where 0 = 0; owner 0 = 0; owner 1 = NONE; tells = 1023 1023 1 1 0 0 0""");
        edge(words, "between two blocks", """
                ask 10; ask 30; ask 10; drop 1; ask 29 = 1; where 1 = 10; owner 38 = 1; owner 39 = NONE; owner 40 = 2
                tells = 975 974 2 3 0 0 0""");
        edge(words, "for a handle that is empty", """
                ask 10; ask 30; ask 10; ask 5; lose 3; drop 1; resize 3 29 = true; where 3 = 10; owner 39 = NONE""");
        edge(words, "for a block that grows", """
                ask 10; ask 30; ask 10; ask 5; ask 1; drop 1; resize 3 29 = true; where 3 = 10; owner 39 = NONE
                owner 50 = NONE; owner 54 = NONE""");
    }

    private static void newBytes() {
        String words = "Its bytes are 0.";
        edge(words, "where a block was dropped", "ask 20; write 0 1 20; drop 0; ask 20 = 0; zero 0 0 20");
        edge(words, "where a block was lost", "ask 20; write 0 1 20; lose 0; ask 20 = 1; zero 1 0 20");
        edge(words, "where a block was before it slid", """
                ask 10; ask 20; write 1 1 20; drop 0; slide; ask 20 = 0; where 0 = 20; zero 0 0 20; read 1 1 20""");
        edge(words, "where a block was before it was lifted", """
                ask 20; write 0 1 20; lift 0; ask 20 = 1; where 1 = 0; zero 1 0 20; read 0 1 20""");
        edge(words, "where a block was before it grew elsewhere", """
                ask 20; ask 20; write 0 1 20; resize 0 21 = true; ask 20 = 2; where 2 = 0; zero 2 0 20; read 0 1 20""");
        edge(words, "where a block ended later", """
                ask 20; write 0 1 20; resize 0 10; ask 10 = 1; where 1 = 10; zero 1 0 10; read 0 1 10""");
        edge(words, "of a handle that was empty", "ask 20; write 0 1 20; lose 0; resize 0 20; zero 0 0 20");
    }

    // What calls throw, and when objects are used.

    private static void namedFirst() {
        String words = "the one named first when several would do";
        edge(words, "put", """
                ask 10; ask 10; lose 1; write 0 1 10
                put -1 -1 256 = IllegalArgumentException; put 2 10 -1 = IllegalArgumentException
                put 1 -1 256 = IllegalArgumentException; put 1 -1 -1 = IllegalArgumentException
                put 1 -1 255 = IllegalStateException; put 1 0 0 = IllegalStateException
                put 0 10 256 = IllegalArgumentException; put 0 -1 -1 = IllegalArgumentException
                put 0 10 255 = IndexOutOfBoundsException; put 0 -1 0 = IndexOutOfBoundsException; read 0 1 10""");
        edge(words, "get", """
                ask 10; ask 10; lose 1; get 48 -1 = IllegalArgumentException; get 2 10 = IllegalArgumentException
                get 1 -1 = IllegalStateException; get 1 0 = IllegalStateException
                get 0 -1 = IndexOutOfBoundsException; get 0 10 = IndexOutOfBoundsException""");
        edge(words, "resize", """
                ask 10; ask 10; lose 1; resize 48 0 = IllegalArgumentException; resize 2 1025 = IllegalArgumentException
                resize 1 0 = IllegalArgumentException; resize 0 1025 = IllegalArgumentException""");
    }

    private static void nothingIsChanged() {
        String words = "a call that throws changes nothing";
        String blocks = """
                ask 10; ask 20; ask 30 fixed; ask 40; ask 50; write 1 7 20; write 3 90 20; lock 3; losable 1; losable 4
                drop 0; lose 4
                """;
        edge(words, "wrong handles", blocks + """
                drop 0 = IllegalArgumentException; resize 0 1024 = IllegalArgumentException
                lock 0 = IllegalArgumentException; losable 0 = IllegalArgumentException
                lose 0 = IllegalArgumentException; lift 0 = IllegalArgumentException
                put 0 0 1 = IllegalArgumentException; get 0 0 = IllegalArgumentException
                where 48 = IllegalArgumentException; size 48 = IllegalArgumentException""");
        edge(words, "wrong numbers", blocks + """
                ask 0 = IllegalArgumentException; ask 1025 fixed = IllegalArgumentException
                resize 1 0 = IllegalArgumentException; resize 1 1025 = IllegalArgumentException
                resize 4 0 = IllegalArgumentException; resize 4 1025 = IllegalArgumentException
                clear -1 = IllegalArgumentException; clear 1025 = IllegalArgumentException
                put 1 0 256 = IllegalArgumentException; put 1 20 1 = IndexOutOfBoundsException
                get 1 20 = IndexOutOfBoundsException; owner 1024 = IndexOutOfBoundsException
                told 7 = IllegalArgumentException""");
        edge(words, "a handle that is empty, a block that is not movable", blocks + """
                lock 4 = IllegalStateException; unlock 4 = IllegalStateException
                losable 4 = IllegalStateException; unlosable 4 = IllegalStateException
                lose 4 = IllegalStateException; lift 4 = IllegalStateException
                put 4 0 1 = IllegalStateException; get 4 0 = IllegalStateException
                lift 2 = IllegalStateException; lift 3 = IllegalStateException""");
    }

    private static void noneAndEmpty() {
        String words = "NONE (-1) and EMPTY (-2) are told where they can be answers.";
        CHECK.due(words + ": the constant NONE", HandleHeap.NONE, -1);
        CHECK.due(words + ": the constant EMPTY", HandleHeap.EMPTY, -2);
        edge(words, "in the document's numbers", """
                where 0 = -1; owner 0 = -1; ask 1024 = 0; ask 1 = -1; lose 0; where 0 = -2; owner 0 = -1; drop 0 = 0
                where 0 = -1""");
    }

    private static void lastCall() {
        String words = "An object is used for at most 512 calls after it has been made";
        Scene.playToTheEnd(CHECK, words + ": the last one, behind many moves",
                "ask 10\n" + "lift 0 = 1014; slide = 1014\n".repeat(255) + "told 5 = 5100");
        Scene.playToTheEnd(CHECK, words + ": the last one, behind many losses",
                "ask 10\n" + "lose 0 = true; resize 0 10 = true\n".repeat(255) + "told 6 = 255");
        Scene.playToTheEnd(CHECK, words + ": the last one, behind many refusals",
                "ask 1024 = 0; 510 x ask 1; told 3 = 1");
    }

    public static void main(String[] args) {
        bytes();
        freeBlocksMeet();
        freeBlocksMeetWhereBlocksChange();
        handles();
        kinds();
        slideDown();
        slideRoundWhatStandsFast();
        lose();
        roomAsItIs();
        roomBySliding();
        roomByLosing();
        roomByLosingAndSliding();
        roomByLosingAll();
        newBlock();
        newBytes();
        namedFirst();
        nothingIsChanged();
        noneAndEmpty();
        lastCall();
        CHECK.finish();
    }
}
