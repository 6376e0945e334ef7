import java.io.IOException;
import java.lang.reflect.InvocationTargetException;
import java.lang.reflect.Method;
import java.nio.file.Files;
import java.nio.file.Path;
import java.util.ArrayList;
import java.util.Arrays;
import java.util.List;
import java.util.regex.Matcher;
import java.util.regex.Pattern;

/** The class and README.md against the face in DOC.md, and the examples of README.md against the class. */
public final class ReadmeTest extends Checks {
    private static final Pattern FACE_METHOD =
            Pattern.compile("\\s*public (int|long|double) (\\w+)\\((.*?)\\)(?: throws (.*))?;");
    private static final Pattern TABLE_ROW = Pattern.compile("\\| `(\\w+)\\((.*?)\\)` \\|.*\\|(.*)\\|(.*)\\|");
    private static final Pattern EXCEPTION = Pattern.compile("\\b(Index|Argument|State)\\b");
    private static final Pattern ASKED = Pattern.compile("desk\\.(\\w+)\\((.*)\\); +// (answers|throws) (\\S+)");
    private static final Pattern TYPED =
            Pattern.compile("for \\(char c : \"(.*)\"\\.toCharArray\\(\\)\\) desk\\.append\\(c\\);");

    private record Promised(String type, String name, String parameters, String exceptions) { }

    public static void main(String[] args) throws IOException {
        List<String> readme = Files.readAllLines(Path.of("README.md"));
        List<String> document = Files.readAllLines(Path.of("../shared/DOC.md"));
        List<Promised> face = faceIn(document);
        due("methods of the face in DOC.md", face.size(), 25);
        for (Promised promised : face) {
            classKeeps(promised);
            readmeTells(readme, promised, document);
        }
        due("examples in README.md", doExamples(readme), 2);
        System.out.println(wrong == 0 ? "README.md, the class and the face in DOC.md agree" : wrong + " differences");
        if (wrong != 0) {
            System.exit(1);
        }
    }

    private static List<Promised> faceIn(List<String> document) {
        List<Promised> face = new ArrayList<>();
        for (String line : document) {
            Matcher method = FACE_METHOD.matcher(line);
            if (method.matches()) {
                String exceptions = method.group(4) == null ? "" : method.group(4);
                face.add(new Promised(method.group(1), method.group(2), method.group(3), exceptions));
            }
        }
        return face;
    }

    private static int many(String parameters) {
        return parameters.isEmpty() ? 0 : parameters.split(", ").length;
    }

    private static Class<?>[] ints(int many) {
        Class<?>[] types = new Class<?>[many];
        Arrays.fill(types, int.class);
        return types;
    }

    private static void classKeeps(Promised promised) {
        try {
            Method method = StuntDesk.class.getMethod(promised.name(), ints(many(promised.parameters())));
            due(promised.name() + "'s type", method.getReturnType().getName(), promised.type());
            List<String> exceptions = new ArrayList<>();
            for (Class<?> exception : method.getExceptionTypes()) {
                exceptions.add(exception.getSimpleName());
            }
            due(promised.name() + "'s throws clause", String.join(", ", exceptions), promised.exceptions());
        } catch (NoSuchMethodException e) {
            due(promised.name(), "not in the class", "in the class");
        }
    }

    private static void readmeTells(List<String> readme, Promised promised, List<String> document) {
        for (String line : readme) {
            Matcher row = TABLE_ROW.matcher(line);
            if (row.matches() && row.group(1).equals(promised.name())) {
                String name = "README.md on " + promised.name();
                due(name + ", the parameters", row.group(2), promised.parameters().replace("int ", ""));
                due(name + ", the exceptions", exceptionsOf(row.group(3)), promised.exceptions());
                due(name + ", undoable", row.group(4).contains("yes") ? 1 : 0, isUndoable(document, promised) ? 1 : 0);
                return;
            }
        }
        due("README.md on " + promised.name(), "nothing", "a row");
    }

    private static String exceptionsOf(String column) {
        List<String> exceptions = new ArrayList<>();
        Matcher exception = EXCEPTION.matcher(column);
        while (exception.find()) {
            exceptions.add(switch (exception.group(1)) {
                case "Index" -> INDEX;
                case "Argument" -> ARGUMENT;
                default -> STATE;
            });
        }
        return String.join(", ", exceptions);
    }

    private static boolean isUndoable(List<String> document, Promised promised) {
        String start = "`" + promised.type() + " " + promised.name() + "(";
        return document.stream().anyMatch(line -> line.startsWith(start) && line.contains(" Undoable"));
    }

    /** Answers how many examples there are. */
    private static int doExamples(List<String> readme) {
        int examples = 0;
        StuntDesk desk = null;
        for (String line : readme) {
            if (line.equals("```java")) {
                examples++;
            } else if (line.equals("```")) {
                desk = null;
            } else if (line.equals("StuntDesk desk = new StuntDesk();")) {
                desk = new StuntDesk();
            } else if (desk != null) {
                doLine(desk, line);
            }
        }
        return examples;
    }

    private static void doLine(StuntDesk desk, String line) {
        Matcher typed = TYPED.matcher(line);
        Matcher asked = ASKED.matcher(line);
        if (typed.matches()) {
            type(desk, typed.group(1));
        } else if (asked.matches()) {
            String want = asked.group(3) + " " + asked.group(4);
            due("README.md: " + line, outcomeOf(desk, asked.group(1), asked.group(2)), want.replace("NONE", "-1"));
        } else {
            due("README.md: " + line, "not understood", "a call and its answer");
        }
    }

    private static String outcomeOf(StuntDesk desk, String name, String arguments) {
        Object[] numbers = arguments.isEmpty() ? new Object[0]
                : Arrays.stream(arguments.split(", ")).map(Integer::valueOf).toArray();
        try {
            return "answers " + StuntDesk.class.getMethod(name, ints(numbers.length)).invoke(desk, numbers);
        } catch (InvocationTargetException e) {
            return "throws " + e.getCause().getClass().getSimpleName();
        } catch (ReflectiveOperationException e) {
            return "can't be called";
        }
    }
}
