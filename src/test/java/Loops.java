import com.sun.source.tree.ExpressionTree;
import com.sun.source.tree.ForLoopTree;
import com.sun.source.tree.StatementTree;
import com.sun.source.tree.VariableTree;
import com.sun.source.tree.WhileLoopTree;
import java.util.List;
import java.util.regex.Matcher;
import java.util.regex.Pattern;

/** Whether the end of a loop can be seen from its own lines. */
final class Loops {
    private static final Pattern BOUND = Pattern.compile("(\\w+) (<|<=|>=|>) (.+)");

    private Loops() {
    }

    /** A for loop counts one variable of its own, which its body leaves alone, up or down to a bound. */
    static String findFault(ForLoopTree loop) {
        if (loop.getInitializer().size() != 1 || !(loop.getInitializer().get(0) instanceof VariableTree counter)
                || loop.getUpdate().size() != 1 || loop.getCondition() == null) {
            return "a loop without one counter";
        }
        String name = counter.getName().toString();
        String step = loop.getUpdate().get(0).toString();
        if (isChanged(name, loop.getStatement())) {
            return "a loop that changes its counter";
        }
        if (step.equals(name + "++;")) {
            return findFault(name, List.of("<", "<="), loop.getCondition(), loop.getStatement());
        }
        if (step.equals(name + "--;")) {
            return findFault(name, List.of(">", ">="), loop.getCondition(), loop.getStatement());
        }
        return "a loop that does not count by ones";
    }

    /** A while loop counts a variable up in a line of its body. */
    static String findFault(WhileLoopTree loop) {
        String body = loop.getStatement().toString();
        for (String part : conditions(loop.getCondition())) {
            Matcher matcher = BOUND.matcher(part);
            if (matcher.matches() && body.contains("\n    " + matcher.group(1) + "++;")) {
                String rest = body.replace("\n    " + matcher.group(1) + "++;", "");
                if (!isChanged(matcher.group(1), rest) && !isChanged(matcher.group(3), rest)) {
                    return null;
                }
            }
        }
        return "a loop whose end can't be seen";
    }

    private static String findFault(String counter, List<String> signs, ExpressionTree condition, StatementTree body) {
        for (String part : conditions(condition)) {
            Matcher matcher = BOUND.matcher(part);
            if (matcher.matches() && matcher.group(1).equals(counter) && signs.contains(matcher.group(2))) {
                return isGrowing(matcher.group(3), body) ? "a loop that changes its bound" : null;
            }
        }
        return "a loop whose end can't be seen";
    }

    /** The parts of a condition that must all hold. */
    private static String[] conditions(ExpressionTree condition) {
        return condition.toString().replaceFirst("^\\((.*)\\)$", "$1").split(" && ");
    }

    private static boolean isGrowing(String bound, StatementTree body) {
        for (String part : bound.split("[^\\w.]+")) {
            String list = part.replaceFirst("\\.size$", "");
            if (isChanged(part, body) || stands(Pattern.quote(list + ".add("), body)) {
                return true;
            }
        }
        return false;
    }

    private static boolean isChanged(String name, Object body) {
        if (name.isEmpty() || !Character.isLetter(name.charAt(0))) {
            return false;
        }
        return stands(Pattern.quote(name) + "( ([-+*/|&]|<<|>>)?= |\\+\\+|--)", body);
    }

    private static boolean stands(String pattern, Object body) {
        return Pattern.compile("(?<![\\w.])" + pattern).matcher(body.toString()).find();
    }
}
