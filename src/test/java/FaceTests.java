import java.io.IOException;
import java.lang.reflect.Constructor;
import java.lang.reflect.Field;
import java.lang.reflect.Method;
import java.lang.reflect.Modifier;
import java.nio.file.Files;
import java.nio.file.Path;
import java.util.Arrays;
import java.util.Random;
import java.util.TreeSet;
import java.util.regex.Matcher;
import java.util.regex.Pattern;

/** The public face, the rules of LANGUAGE.md that can be seen from outside, and that no call ever throws. */
public final class FaceTests {
    private static final String FACE = "alike/3 at/1 back/0 behind/3 bobbin/2 brings/3 change/2 count/1 cut/0 deal/1 "
        + "fault/0 forget/0 home/1 keep/0 lay/0 made/2 maker/2 order/1 round/2 said/2 say/1 see/1 sit/1 slip/1 slips/4 "
        + "undo/0 unpick/0 ways/2 who/0 winter/3 wipe/0 write/1";
    private static final String HEADINGS = "pillows:write wipe fault lay maker order bobbin at made|"
        + "at the pillow:say unpick sit change cut undo|sayings:behind round brings home ways alike deal|"
        + "what was seen:see forget who said slip|slips, winters:slips winter keep back count";
    private static int wrong = 0;

    public static void main(String[] args) throws Exception {
        members();
        innerClasses();
        String source = Files.readString(sourceFile());
        headings(source);
        words(source);
        shortMethods(source);
        oddArguments();
        System.out.println(wrong == 0 ? "the face is as told" : wrong + " things are not as told");
        if (wrong != 0) {
            System.exit(1);
        }
    }

    private static void hold(boolean holds, String what) {
        if (!holds) {
            wrong++;
            System.out.println("not so: " + what);
        }
    }

    private static Path sourceFile() throws IOException {
        return Path.of("src", "main", "java", "BobbinTalk.java");
    }

    private static void members() throws Exception {
        hold(Modifier.isFinal(BobbinTalk.class.getModifiers()), "the class is final");
        TreeSet<String> face = new TreeSet<>();
        TreeSet<String> hidden = new TreeSet<>();
        for (Method method : BobbinTalk.class.getDeclaredMethods()) {
            if (Modifier.isPrivate(method.getModifiers())) {
                hidden.add(method.getName());
                continue;
            }
            hold(Modifier.isPublic(method.getModifiers()) && !Modifier.isStatic(method.getModifiers())
                && method.getReturnType() == int.class, method.getName() + " is a public call that answers an int");
            face.add(method.getName() + "/" + method.getParameterCount());
        }
        hold(String.join(" ", face).equals(FACE), "the calls are those of the document, not " + face);
        for (String name : hidden) {
            hold(!(" " + FACE).contains(" " + name + "/"), name + " is no private method too");
        }
        for (Constructor<?> constructor : BobbinTalk.class.getDeclaredConstructors()) {
            hold(Modifier.isPublic(constructor.getModifiers()) && constructor.getParameterCount() == 0, "one constructor");
        }
        TreeSet<String> constants = new TreeSet<>();
        for (Field field : BobbinTalk.class.getDeclaredFields()) {
            if (!Modifier.isPrivate(field.getModifiers())) {
                constants.add(field.getName() + field.getInt(null));
            }
            hold(!Modifier.isStatic(field.getModifiers()) || Modifier.isFinal(field.getModifiers()), field + " is final");
        }
        hold(constants.toString().equals("[BAD-1, FULL-3, NO-2, NONE-4]"), "the constants, not " + constants);
    }

    private static void innerClasses() {
        Class<?>[] inner = BobbinTalk.class.getDeclaredClasses();
        hold(inner.length <= 12, "at most some twelve classes");
        for (Class<?> one : inner) {
            hold(!Modifier.isPublic(one.getModifiers()) && !Modifier.isProtected(one.getModifiers()), one + " is not public");
            long fields = 0;
            for (Field field : one.getDeclaredFields()) {
                fields += Modifier.isStatic(field.getModifiers()) ? 0 : 1;
                hold(!Modifier.isStatic(field.getModifiers()) || Modifier.isFinal(field.getModifiers()), field + " is final");
            }
            hold(fields <= 20, one + " has at most some twenty fields");
            for (Method method : one.getDeclaredMethods()) {
                hold(method.getParameterCount() <= 7, method + " takes at most seven");
            }
        }
    }

    private static void headings(String source) {
        int from = 0;
        for (String part : HEADINGS.split("\\|")) {
            String[] told = part.split(":");
            int heading = placeOf("//\\s*----\\s*" + told[0], source, from);
            hold(heading >= from, "the heading " + told[0]);
            from = Math.max(from, heading);
            for (String call : told[1].split(" ")) {
                int place = placeOf("public int " + call + "\\(", source, from);
                hold(place >= from, call + " stands behind its heading, in order");
                from = Math.max(from, place);
            }
        }
    }

    private static int placeOf(String words, String source, int from) {
        Matcher found = Pattern.compile(words).matcher(source);
        return found.find(from) ? found.start() : -1;
    }

    private static void words(String source) {
        String code = source.replaceAll("(?s)/\\*.*?\\*/", " ").replaceAll("//[^\n]*", " ");
        String[] never = {"\\bfinally\\b", "\\bsynchronized\\b", "\\bassert\\b", "\\bpackage\\b", "\\bvolatile\\b", "::",
            "\\bSystem\\.(?!arraycopy)", "\\bRandom\\b", "\\w+Exact\\b", "\\bThread\\b", "static \\{",
            "\\bcatch \\((Throwable|Exception|RuntimeException|IndexOutOf|ArrayIndex|NullPointer|ClassCast|NegativeArray|ArrayStore)"};
        for (String word : never) {
            hold(placeOf(word, code, 0) < 0, "no " + word);
        }
        for (String line : source.split("\n")) {
            hold(!line.startsWith("import ") || line.matches("import java\\.util\\.(Arrays|ArrayList|List|Iterator|NoSuchElementException);"),
                line + " is of the library told");
            hold(!line.contains("->") || line.matches("\\s*(case|default)\\b.*"), "no lambda: " + line);
        }
    }

    private static void shortMethods(String source) {
        int length = 0;
        for (String line : source.split("\n")) {
            length = line.matches("    (    )?\\S.*\\{") ? 0 : length + 1;
            hold(length <= 60 || line.isEmpty(), "a method of at most some sixty lines: " + line);
        }
    }

    private static final int[] ODD = {Integer.MIN_VALUE, Integer.MIN_VALUE + 1, -100, -5, -2, -1, 0, 1, 2, 3, 4, 5, 6, 7,
        8, 9, 10, 11, 23, 24, 25, 26, 31, 32, 33, 60, 61, 126, 127, 200, 9999, 10000, 97656, 390624, 390625, 488281,
        999999, 1000000, 16777216, 1 << 30, Integer.MAX_VALUE - 1, Integer.MAX_VALUE};

    private static void oddArguments() throws Exception {
        Random random = new Random(5);
        Method[] calls = BobbinTalk.class.getDeclaredMethods();
        Arrays.sort(calls, (a, b) -> a.getName().compareTo(b.getName()));
        String[] texts = {"", "n2;m1,1,1234;o3;", "n3;m3,9,3455;m2,1,5050;s901;o60;o60;o60;o60;o60;o60;"};
        for (int run = 0; run < 150; run++) {
            BobbinTalk x = new BobbinTalk();
            String letters = texts[run % texts.length];
            for (char letter : letters.toCharArray()) {
                x.write(letter);
            }
            x.lay();
            for (int call = letters.length() + 1; call < 512; call++) {
                Method method = calls[random.nextInt(calls.length)];
                if (!Modifier.isPublic(method.getModifiers())) {
                    continue;
                }
                Object[] told = new Object[method.getParameterCount()];
                for (int i = 0; i < told.length; i++) {
                    told[i] = random.nextInt(3) == 0 ? ODD[random.nextInt(ODD.length)] : random.nextInt(6);
                }
                try {
                    int answer = (int) method.invoke(x, told);
                    hold(answer >= -4, method.getName() + " answers no other number below 0");
                } catch (java.lang.reflect.InvocationTargetException e) {
                    hold(false, method.getName() + Arrays.toString(told) + " throws " + e.getCause());
                }
            }
        }
    }
}
