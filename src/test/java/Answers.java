import java.util.ArrayList;
import java.util.List;
import java.util.function.Supplier;

/** What the reading calls of an object answer, exceptions by their names, so that two objects can be compared. */
final class Answers {
    private Answers() { }

    static String of(Supplier<Object> call) {
        try {
            return String.valueOf(call.get());
        } catch (RuntimeException e) {
            return e.getClass().getSimpleName();
        }
    }

    /** Every reading call with every number from one below its range to one above. */
    static List<String> all(DiagramPress press) {
        List<String> answers = new ArrayList<>();
        answers.add("fault() " + press.fault());
        for (int i = -1; i <= 12; i++) {
            int node = i;
            answers.add("rank(" + i + ") " + of(() -> press.rank(node)));
            answers.add("position(" + i + ") " + of(() -> press.position(node)));
            answers.add("x(" + i + ") " + of(() -> press.x(node)));
            for (int j = -1; j <= 12; j++) {
                addPair(answers, press, i, j);
            }
        }
        for (int i = -1; i <= 19; i++) {
            int what = i;
            answers.add("count(" + i + ") " + of(() -> press.count(what)));
        }
        for (int i = -1; i <= 150; i++) {
            for (int j = -1; j <= 72; j++) {
                int column = i;
                int row = j;
                answers.add("pixel(" + i + ", " + j + ") " + of(() -> press.pixel(column, row)));
            }
        }
        return answers;
    }

    private static void addPair(List<String> answers, DiagramPress press, int u, int v) {
        String pair = "(" + u + ", " + v + ", ";
        answers.add("edge" + pair + "false) " + of(() -> press.edge(u, v, false)));
        answers.add("edge" + pair + "true) " + of(() -> press.edge(u, v, true)));
        // The longest edge leads over the ten ranks between the first and the last one.
        for (int i = -1; i <= 10; i++) {
            int k = i;
            answers.add("bend" + pair + i + ") " + of(() -> press.bend(u, v, k)));
            answers.add("bendPosition" + pair + i + ") " + of(() -> press.bendPosition(u, v, k)));
        }
    }

    static void same(String what, List<String> got, List<String> due) {
        for (int i = 0; i < due.size(); i++) {
            if (!got.get(i).equals(due.get(i))) {
                Check.report(what + ": " + got.get(i) + ", due is " + due.get(i));
            }
        }
    }
}
