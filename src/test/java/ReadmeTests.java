import java.io.IOException;
import java.lang.reflect.Method;
import java.nio.file.Files;
import java.nio.file.Path;
import java.util.ArrayList;
import java.util.List;
import java.util.regex.Matcher;
import java.util.regex.Pattern;

/** That README.md's example answers as it says, and that its tables name every call with as many arguments. */
public final class ReadmeTests {
    private static final Pattern CALL = Pattern.compile("talk\\.(\\w+)\\(([^()]*)\\);\\s*// (-?\\d+): .*");
    private static final Pattern TEXT = Pattern.compile(".*\"([^\"]*)\"\\.toCharArray.*");
    private static final Pattern ROW = Pattern.compile("\\| `(\\w+)\\(([^()]*)\\)` \\|.*\\|.*\\|");
    private static final String CALLS = "write/1 wipe/0 fault/0 lay/0 maker/2 order/1 bobbin/2 at/1 made/2 say/1 unpick/0 sit/1 "
        + "change/2 cut/0 undo/0 behind/3 round/2 brings/3 home/1 ways/2 alike/3 deal/1 see/1 forget/0 who/0 said/2 slip/1 "
        + "slips/4 winter/3 keep/0 back/0 count/1";
    private static int wrong = 0;

    public static void main(String[] args) throws Exception {
        List<String> lines = Files.readAllLines(Path.of("README.md"));
        example(lines);
        tables(lines);
        below0(String.join("\n", lines));
        System.out.println(wrong == 0 ? "README.md tells what is so" : wrong + " things of README.md are not so");
        if (wrong != 0) {
            System.exit(1);
        }
    }

    private static void hold(boolean holds, String what) {
        if (!holds) {
            wrong++;
            System.out.println("not so: " + what);
        }
    }

    private static void example(List<String> lines) throws Exception {
        BobbinTalk talk = new BobbinTalk();
        int answers = 0;
        for (String line : lines.subList(lines.indexOf("```java"), lines.indexOf("```"))) {
            Matcher text = TEXT.matcher(line);
            if (text.matches()) {
                text.group(1).chars().forEach(talk::write);
            }
            Matcher call = CALL.matcher(line);
            if (call.matches()) {
                answers++;
                int got = answer(talk, call.group(1), call.group(2));
                hold(got == Integer.parseInt(call.group(3)), line + " but " + got);
            }
        }
        hold(answers >= 10, "the example has calls with answers");
    }

    private static int answer(BobbinTalk talk, String name, String arguments) throws Exception {
        Object[] told = numbers(arguments).toArray();
        Class<?>[] types = new Class<?>[told.length];
        java.util.Arrays.fill(types, int.class);
        Method method = BobbinTalk.class.getMethod(name, types);
        return (int) method.invoke(talk, told);
    }

    private static List<Integer> numbers(String arguments) {
        List<Integer> numbers = new ArrayList<>();
        for (String one : arguments.split("\\s*,\\s*")) {
            if (!one.isEmpty()) {
                numbers.add(Integer.parseInt(one));
            }
        }
        return numbers;
    }

    private static void tables(List<String> lines) {
        List<String> named = new ArrayList<>();
        for (String line : lines) {
            Matcher row = ROW.matcher(line);
            if (row.matches()) {
                named.add(row.group(1) + "/" + (row.group(2).isEmpty() ? 0 : row.group(2).split(",").length));
            }
        }
        hold(String.join(" ", named).equals(CALLS), "the tables name the calls of the face, in its order, not " + named);
    }

    private static void below0(String all) {
        hold(all.contains("| " + BobbinTalk.BAD + " | `BAD` |") && all.contains("| " + BobbinTalk.NO + " | `NO` |")
            && all.contains("| " + BobbinTalk.FULL + " | `FULL` |") && all.contains("| " + BobbinTalk.NONE + " | `NONE` |"),
            "the numbers below 0 are told");
    }
}
