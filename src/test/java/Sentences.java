import java.util.ArrayList;
import java.util.List;
import java.util.function.IntFunction;

/**
 * Sentences of the document, each with a run of calls that would not be answered so if it were broken. A row is a
 * call with the answer that is due: "clip 41 = IllegalArgumentException". Without "=" it must just not be refused.
 * With "! " ahead of it, the call must also change nothing that can be seen.
 */
final class Sentences {
    private static final String REFUSED = "! ";

    private int wrong = 0;
    private int told = 0;

    /** The rows are texts, or lists of texts. */
    void holds(String sentence, Object... rows) {
        told++;
        Room room = new Room();
        List<String> kept = new ArrayList<>();
        for (String row : flat(rows)) {
            boolean mustChangeNothing = row.startsWith(REFUSED);
            String bare = mustChangeNothing ? row.substring(REFUSED.length()) : row;
            String[] parts = bare.split("=", -1);
            String due = parts.length > 1 ? parts[1].trim() : null;
            check(sentence, bare, room.answer(parts[0]), due);
            if (mustChangeNothing) {
                checkNothingChanged(sentence, kept, parts[0]);
                checkWithAnUndoneEdit(sentence, kept, parts[0], due);
            } else {
                kept.add(parts[0]);
            }
        }
    }

    private void check(String sentence, String row, String got, String due) {
        boolean isRefusal = got.equals("false") || got.endsWith("Exception");
        if (due == null ? isRefusal : !got.equals(due)) {
            tell(sentence, row + " answered " + got);
        }
    }

    private void checkNothingChanged(String sentence, List<String> kept, String call) {
        List<String> without = Views.of(() -> played(kept));
        List<String> with = Views.of(() -> {
            Room room = played(kept);
            room.answer(call);
            return room;
        });
        for (int i = 0; i < Math.min(without.size(), with.size()); i++) {
            if (!without.get(i).equals(with.get(i))) {
                tell(sentence, call + "changed what is seen: " + with.get(i) + ", due is " + without.get(i));
            }
        }
        if (without.size() != with.size()) {
            tell(sentence, call + "changed the sources");
        }
    }

    /** What is refused must leave what can be done again, too; there is mostly nothing yet in the run itself. */
    private void checkWithAnUndoneEdit(String sentence, List<String> kept, String call, String due) {
        String edit = Views.goodEdit(played(kept));
        if (edit.isEmpty() || call.startsWith("redo")) {
            return;
        }
        List<String> more = new ArrayList<>(kept);
        more.add(edit);
        more.add("undo");
        check(sentence, call + "behind an undone edit", played(more).answer(call), due);
        checkNothingChanged(sentence, more, call);
    }

    private static Room played(List<String> calls) {
        Room room = new Room();
        calls.forEach(room::answer);
        return room;
    }

    private static List<String> flat(Object[] rows) {
        List<String> flat = new ArrayList<>();
        for (Object row : rows) {
            if (row instanceof List<?> list) {
                flat.addAll(flat(list.toArray()));
            } else {
                flat.add((String) row);
            }
        }
        return flat;
    }

    private void tell(String sentence, String what) {
        wrong++;
        System.out.println("[" + sentence + "] " + what);
    }

    void end() {
        System.out.println(told + " runs of calls, " + wrong + " answers are not as due");
        if (wrong != 0) {
            System.exit(1);
        }
    }

    /** The rows of a run, each with its number from 0 on. */
    static List<String> times(int count, IntFunction<String> row) {
        List<String> rows = new ArrayList<>();
        for (int i = 0; i < count; i++) {
            rows.add(row.apply(i));
        }
        return rows;
    }

    /** A call with a question mark, refused with each of some words in its place. */
    static List<String> refused(String call, String answer, Object... words) {
        List<String> rows = new ArrayList<>();
        for (Object word : words) {
            rows.add(REFUSED + call.replace("?", word.toString()) + " = " + answer);
        }
        return rows;
    }
}
