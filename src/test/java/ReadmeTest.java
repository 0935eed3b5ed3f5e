import java.io.IOException;
import java.lang.reflect.Method;
import java.lang.reflect.Modifier;
import java.nio.file.Files;
import java.nio.file.Path;
import java.util.List;

/** The README's example answers what it says, and its table names every call of the face. */
public final class ReadmeTest {

    private static int wrong = 0;
    private static List<String> readme;
    private static int linesOfExample = 0;

    public static void main(String[] args) throws IOException {
        readme = Files.readAllLines(Path.of("README.md"));
        theExample();
        theTable();
        System.out.println(wrong == 0 ? "ReadmeTest: README.md is as due" : "ReadmeTest: " + wrong + " wrong");
        if (wrong != 0) {
            System.exit(1);
        }
    }

    private static void require(boolean holds, String what) {
        if (!holds) {
            wrong++;
            System.out.println("not so: " + what);
        }
    }

    /** The README has this statement, and tells just this answer behind it. */
    private static void told(String statement, String answer) {
        linesOfExample++;
        for (String line : readme) {
            if (line.startsWith(statement)) {
                String comment = line.substring(statement.length()).strip();
                require(comment.matches("// " + answer + "\\b.*"), statement + " answered " + answer + ", told is " + comment);
                return;
            }
        }
        require(false, "README.md has the line " + statement);
    }

    private static void theExample() {
        MeaningTypes x = new MeaningTypes();
        int zero = x.constants(1);
        told("int zero = x.constants(1);", "type " + zero);
        int one = x.constants(2);
        told("int one = x.constants(2);", "type " + one);
        int bit = x.union(zero, one);
        told("int bit = x.union(zero, one);", "type " + bit);
        int keepsZero = x.arrow(zero, zero);
        told("int keepsZero = x.arrow(zero, zero);", "type " + keepsZero);
        int keepsOne = x.arrow(one, one);
        told("int keepsOne = x.arrow(one, one);", "type " + keepsOne);
        int keeps = x.meet(keepsZero, keepsOne);
        told("int keeps = x.meet(keepsZero, keepsOne);", "type " + keeps);
        told("x.within(keeps, keepsZero);", "" + x.within(keeps, keepsZero));
        told("x.compare(keeps, keepsZero);", "" + x.compare(keeps, keepsZero));
        told("x.answers(keeps, bit, bit);", "" + x.answers(keeps, bit, bit));
        int f = x.function(keeps);
        told("int f = x.function(keeps);", "value " + f);
        int c = x.constant(1);
        told("int c = x.constant(1);", "value " + c);
        int p = x.pair(f, c);
        told("int p = x.pair(f, c);", "value " + p);
        told("x.belongs(p, x.product(keepsZero, bit));", "" + x.belongs(p, x.product(keepsZero, bit)));
        told("x.match(f, bit, keepsOne, keeps);", "" + x.match(f, bit, keepsOne, keeps));
        told("x.sorts(c);", "" + x.sorts(c));
        told("x.cut(3);", "" + x.cut(3));
        int start = readme.indexOf("```java");
        int lines = readme.subList(start + 1, readme.size()).indexOf("```");
        require(lines == 1 + linesOfExample, "the example has " + linesOfExample + " lines after the first");
    }

    private static void theTable() {
        for (Method method : MeaningTypes.class.getDeclaredMethods()) {
            if (Modifier.isPublic(method.getModifiers())) {
                String call = "`" + method.getName() + "(";
                require(readme.stream().anyMatch(line -> line.startsWith("| ") && line.contains(call)),
                    "the table has " + method.getName());
            }
        }
    }
}
