import java.util.ArrayList;
import java.util.List;

/**
 * A run of calls on new objects, written as rows such as "resize 0 20 = true": a call and, where it is looked at, the
 * answer that is due. Rows end with a line or with ";".
 *
 * <p>Beside the calls of the face (ask with "fixed" behind it, lock and unlock, losable and unlosable) there are rows
 * that stand for several calls:
 * <pre>
 *   48 x ask 1              the call so many times
 *   48 each losable         the call of so many handles, from 0 on
 *   write 0 7 20            byte i of handle 0 becomes 7 + i, for 20 bytes
 *   read 0 7 20             they are so
 *   zero 0 20 30            bytes 20 to 29 of handle 0 are 0
 *   wheres = 0 10 EMPTY     where of handles 0, 1, 2
 *   sizes = 10 20 0         size of handles 0, 1, 2
 *   tells = 0 0 0 1 0 0 0   told of 0 to 6
 * </pre>
 *
 * <p>Of every scene two more things are looked at, since they are due of every one: that a call that throws changed
 * nothing, and that the blocks at the end fill the heap as the terms have it.
 */
final class Scene {
    /** An object is promised to be right for so many calls. */
    private static final int MOST_CALLS = 512;

    /** What looking at an object behind its rows takes of them, at the most. */
    private static final int CALLS_TO_LOOK = 160;

    private static final int BYTES = 1024;
    private static final int HANDLES = 48;

    private record Row(String call, String due) {
        boolean throwsOne() {
            return due.endsWith("Exception");
        }
    }

    private final Check check;
    private final String title;
    private final List<Row> rows = new ArrayList<>();

    private Scene(Check check, String title, String text) {
        this.check = check;
        this.title = title;
        for (String row : text.split("[;\n]")) {
            if (!row.isBlank()) {
                addRow(row.trim());
            }
        }
    }

    static void play(Check check, String title, String text) {
        Scene scene = new Scene(check, title, text);
        scene.playRows(MOST_CALLS - CALLS_TO_LOOK);
        scene.lookAtRefusals();
        scene.lookAtTerms();
    }

    /** For a scene that uses all the calls of an object, so that none are left to look at it. */
    static void playToTheEnd(Check check, String title, String text) {
        new Scene(check, title, text).playRows(MOST_CALLS);
    }

    // Reading rows.

    private void addRow(String row) {
        String[] sides = row.split("=");
        String[] words = sides[0].trim().split(" +");
        String[] dues = sides.length > 1 ? sides[1].trim().split(" +") : new String[] {""};
        if (words.length > 1 && words[1].equals("x")) {
            addRepeated(Integer.parseInt(words[0]), sides[0].substring(sides[0].indexOf('x') + 1).trim());
        } else if (words.length > 1 && words[1].equals("each")) {
            addEach(Integer.parseInt(words[0]), words[2]);
        } else if (words[0].equals("wheres") || words[0].equals("sizes") || words[0].equals("tells")) {
            addLooks(words[0].equals("tells") ? "told" : words[0].substring(0, words[0].length() - 1), dues);
        } else if (words[0].equals("write") || words[0].equals("read") || words[0].equals("zero")) {
            addByteRows(words);
        } else {
            rows.add(new Row(String.join(" ", words), due(dues[0])));
        }
    }

    private void addRepeated(int times, String call) {
        for (int k = 0; k < times; k++) {
            rows.add(new Row(call, ""));
        }
    }

    private void addEach(int handles, String call) {
        for (int h = 0; h < handles; h++) {
            rows.add(new Row(call + " " + h, ""));
        }
    }

    private void addLooks(String call, String[] dues) {
        for (int k = 0; k < dues.length; k++) {
            rows.add(new Row(call + " " + k, due(dues[k])));
        }
    }

    private void addByteRows(String[] words) {
        int a = Integer.parseInt(words[2]);
        int b = Integer.parseInt(words[3]);
        boolean zero = words[0].equals("zero");
        for (int i = zero ? a : 0; i < b; i++) {
            String at = words[1] + " " + i;
            if (words[0].equals("write")) {
                rows.add(new Row("put " + at + " " + (a + i), ""));
            } else {
                rows.add(new Row("get " + at, zero ? "0" : "" + (a + i)));
            }
        }
    }

    /** The document's numbers, not the class's own: a class that changes them is wrong. */
    private static String due(String word) {
        return word.equals("NONE") ? "-1" : word.equals("EMPTY") ? "-2" : word;
    }

    // Making calls.

    private static int number(String word) {
        return word.equals("min") ? Integer.MIN_VALUE : word.equals("max") ? Integer.MAX_VALUE : Integer.parseInt(word);
    }

    private static Object make(HandleHeap heap, String[] words) {
        int a = words.length > 1 ? number(words[1]) : 0;
        return switch (words[0]) {
            case "ask" -> heap.ask(a, words.length > 2);
            case "drop" -> heap.drop(a);
            case "resize" -> heap.resize(a, number(words[2]));
            case "lock" -> heap.lock(a, true);
            case "unlock" -> heap.lock(a, false);
            case "losable" -> heap.losable(a, true);
            case "unlosable" -> heap.losable(a, false);
            case "lose" -> heap.lose(a);
            case "lift" -> heap.lift(a);
            case "slide" -> heap.slide();
            case "clear" -> heap.clear(a);
            case "where" -> heap.where(a);
            case "size" -> heap.size(a);
            case "put" -> heap.put(a, number(words[2]), number(words[3]));
            case "get" -> heap.get(a, number(words[2]));
            case "owner" -> heap.owner(a);
            case "told" -> heap.told(a);
            default -> throw new AssertionError("no such call: " + words[0]);
        };
    }

    private static String answer(HandleHeap heap, String call) {
        try {
            return "" + make(heap, call.split(" "));
        } catch (RuntimeException e) {
            return e.getClass().getSimpleName();
        }
    }

    private void playRows(int most) {
        check.due(title + ": has too many calls", rows.size() > most, false);
        HandleHeap heap = new HandleHeap();
        for (int k = 0; k < rows.size(); k++) {
            Row row = rows.get(k);
            String got = answer(heap, row.call);
            if (!row.due.isEmpty()) {
                check.due(title + "\n    call " + (k + 1) + ": " + row.call, got, row.due);
            }
        }
    }

    /** A new object after the first calls of the scene, those left out that throw, and then the calls given. */
    private HandleHeap after(int first, String... more) {
        HandleHeap heap = new HandleHeap();
        for (Row row : rows.subList(0, first)) {
            if (!row.throwsOne()) {
                answer(heap, row.call);
            }
        }
        for (String call : more) {
            answer(heap, call);
        }
        return heap;
    }

    // A call that throws changes nothing.

    private void lookAtRefusals() {
        for (int k = 0; k < rows.size(); k++) {
            Row row = rows.get(k);
            if (row.throwsOne()) {
                String what = title + "\n    changed by " + row.call + ": ";
                check.due(what + "handles", handles(after(k, row.call)), handles(after(k)));
                check.due(what + "kinds", kinds(after(k, row.call)), kinds(after(k)));
                check.due(what + "bytes", allBytes(k, row.call), allBytes(k));
            }
        }
    }

    private static String handles(HandleHeap heap) {
        StringBuilder all = new StringBuilder();
        for (int h = 0; h < HANDLES; h++) {
            all.append(heap.where(h)).append('+').append(heap.size(h)).append(' ');
        }
        for (int what = 0; what < 7; what++) {
            all.append(heap.told(what)).append(' ');
        }
        return all.toString();
    }

    /** What is locked, losable and fixed shows only by calls that change the heap. */
    private static String kinds(HandleHeap heap) {
        StringBuilder all = new StringBuilder();
        for (int h = 0; h < HANDLES; h++) {
            for (String call : new String[] {"unlock ", "unlosable ", "lift "}) {
                all.append(answer(heap, call + h)).append(' ');
            }
        }
        return all.toString();
    }

    /** All bytes, from several objects, since one is good for few calls. */
    private String allBytes(int first, String... more) {
        StringBuilder all = new StringBuilder();
        HandleHeap heap = null;
        for (int at = 0; at < BYTES; at++) {
            if (at % 32 == 0) {
                heap = after(first, more);
            }
            int h = heap.owner(at);
            all.append(h).append(':').append(h < 0 ? "" : heap.get(h, at - heap.where(h))).append(' ');
        }
        return all.toString();
    }

    // The terms, which hold of every heap.

    private void lookAtTerms() {
        int[] owners = new int[BYTES];
        HandleHeap heap = null;
        for (int at = 0; at < BYTES; at++) {
            if (at % 64 == 0) {
                heap = after(rows.size());
            }
            owners[at] = heap.owner(at);
        }
        check.due(title + "\n    handles as their bytes have them", handles(after(rows.size())), handlesOf(owners));
    }

    private String handlesOf(int[] owners) {
        HandleHeap heap = after(rows.size());
        StringBuilder all = new StringBuilder();
        int used = 0;
        int empty = 0;
        for (int h = 0; h < HANDLES; h++) {
            int begin = first(owners, h);
            int length = count(owners, h);
            // Only the heap itself can tell an empty handle from an unused one.
            all.append(length > 0 ? begin : Math.min(heap.where(h), -1)).append('+').append(length).append(' ');
            used += heap.where(h) == -1 ? 0 : 1;
            empty += heap.where(h) == -2 ? 1 : 0;
        }
        all.append(count(owners, -1)).append(' ').append(greatestGap(owners)).append(' ').append(gaps(owners));
        all.append(' ').append(used).append(' ').append(empty).append(' ');
        all.append(heap.told(5)).append(' ').append(heap.told(6)).append(' ');
        return all.toString();
    }

    private static int first(int[] owners, int handle) {
        for (int at = 0; at < BYTES; at++) {
            if (owners[at] == handle) {
                return at;
            }
        }
        return -1;
    }

    private static int count(int[] owners, int handle) {
        int count = 0;
        for (int owner : owners) {
            count += owner == handle ? 1 : 0;
        }
        return count;
    }

    private static int greatestGap(int[] owners) {
        int greatest = 0;
        int length = 0;
        for (int owner : owners) {
            length = owner < 0 ? length + 1 : 0;
            greatest = Math.max(greatest, length);
        }
        return greatest;
    }

    private static int gaps(int[] owners) {
        int gaps = 0;
        for (int at = 0; at < BYTES; at++) {
            boolean begins = at == 0 || owners[at - 1] >= 0;
            gaps += owners[at] < 0 && begins ? 1 : 0;
        }
        return gaps;
    }
}
