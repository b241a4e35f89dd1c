import java.lang.reflect.InvocationTargetException;
import java.lang.reflect.Method;
import java.lang.reflect.Modifier;
import java.util.ArrayList;
import java.util.Arrays;
import java.util.List;

/**
 * What the tests by sentences share. Such a test first says which part of ../shared/DOC.md it holds to, and in the
 * document's own words which sentence (IndexTests looks whether every sentence has one); then come the answers due.
 */
abstract class Sentences {
    static final int BAD = -1, NO = -2, FULL = -3, NONE = -4;
    static final int LOWEST = Integer.MIN_VALUE, HIGHEST = Integer.MAX_VALUE;

    /** A call whose answer is looked at. */
    interface Call {
        int on(BobbinTalk x);
    }

    /** Calls that bring a new object to where a test begins. */
    interface Calls {
        void on(BobbinTalk x);
    }

    /** Four bobbins, two makers, two orders; of all that can be said, kept, seen, undone and written there is some. */
    static final Calls BUSY = x -> {
        write(x, "n4;m0,1,1250;m1,2,5533;o3;o60;s9081;");
        x.lay();
        x.wipe();
        write(x, "n3;m2,9,0123;o7;");
        x.say(0);
        x.keep();
        x.change(0, 3);
        x.sit(1);
        x.say(3);
        x.see(5);
        x.see(3);
    };

    private static String name = "";
    private static String sentence = "";
    private static int wrong = 0;
    private static int due = 0;

    static void sentence(String part, String words) {
        sentence = part + ", \"" + words + "\"";
    }

    static void due(String call, int got, int want) {
        due++;
        if (got != want) {
            wrong(call + " answered " + got + ", due is " + want);
        }
    }

    private static void wrong(String what) {
        wrong++;
        System.out.println(name + ": " + what + ", by " + sentence);
    }

    /** Runs each test of the class, in the order of their names; ends with exit code 1 if an answer was not as due. */
    static void runAll(Class<?> tests) throws Exception {
        Method[] methods = tests.getDeclaredMethods();
        Arrays.sort(methods, (a, b) -> a.getName().compareTo(b.getName()));
        int many = 0;
        for (Method method : methods) {
            if (isTest(method)) {
                many++;
                run(method);
            }
        }
        System.out.println(many + " tests by sentences, " + due + " answers, " + wrong + " not as due");
        if (wrong != 0 || many == 0) {
            System.exit(1);
        }
    }

    private static boolean isTest(Method method) {
        return Modifier.isStatic(method.getModifiers()) && method.getParameterCount() == 0
            && method.getReturnType() == void.class && !method.isSynthetic();
    }

    private static void run(Method method) throws Exception {
        name = method.getDeclaringClass().getName() + "." + method.getName();
        sentence = "";
        int dueAhead = due;
        method.setAccessible(true);
        try {
            method.invoke(null);
        } catch (InvocationTargetException e) {
            wrong("threw " + e.getCause());
        }
        if (sentence.isEmpty() || due == dueAhead) {
            wrong("names no sentence or looks at no answer");
        }
    }

    static void write(BobbinTalk x, String letters) {
        for (int i = 0; i < letters.length(); i++) {
            x.write(letters.charAt(i));
        }
    }

    static BobbinTalk madeBy(Calls ahead) {
        BobbinTalk x = new BobbinTalk();
        ahead.on(x);
        return x;
    }

    static Calls laying(String letters) {
        return x -> {
            write(x, letters);
            x.lay();
        };
    }

    static BobbinTalk laid(String letters) {
        BobbinTalk x = new BobbinTalk();
        write(x, letters);
        if (x.lay() < 0) {
            wrong(letters + " is not laid");
        }
        return x;
    }

    static void times(int many, Runnable what) {
        for (int i = 0; i < many; i++) {
            what.run();
        }
    }

    static int faultOf(String letters) {
        BobbinTalk x = new BobbinTalk();
        write(x, letters);
        return x.fault();
    }

    static void noFault(String... texts) {
        for (String letters : texts) {
            due("fault() of " + letters, faultOf(letters), NONE);
        }
    }

    static void faultAt(int place, String... texts) {
        for (String letters : texts) {
            due("fault() of " + letters, faultOf(letters), place);
        }
    }

    /** The bobbins from the left as figures, the leftmost one the highest. */
    static int lies(BobbinTalk x) {
        int all = 0;
        for (int p = 0, places = x.count(0); p < places; p++) {
            all = all * 10 + x.at(p);
        }
        return all;
    }

    static int liesBehind(BobbinTalk x, int m, int saying) {
        int all = 0;
        for (int p = 0, places = x.count(0); p < places; p++) {
            all = all * 10 + x.behind(m, saying, p);
        }
        return all;
    }

    static int saying(String sounds) {
        int saying = 0;
        for (int i = 0; i < sounds.length(); i++) {
            saying = saying * 5 + sounds.charAt(i) - 'a' + 1;
        }
        return saying;
    }

    /** The call is refused by that answer, and nothing is changed by it. */
    static void refused(Calls ahead, int want, String call, Call refused) {
        answersAndChangesNothing(ahead, want, call, refused);
    }

    /** All that two objects tell, the call having been made on one of them alone, is the same. */
    static void answersAndChangesNothing(Calls ahead, int want, String call, Call asked) {
        BobbinTalk x = madeBy(ahead);
        BobbinTalk other = madeBy(ahead);
        due(call, asked.on(x), want);
        List<Integer> told = toldBy(x);
        due("what all calls tell behind " + call, told.equals(toldBy(other)) ? 1 : 0, 1);
    }

    /** What an object tells: as it stands, then as it is by each undo and back, and by its text. */
    private static List<Integer> toldBy(BobbinTalk x) {
        List<Integer> told = new ArrayList<>();
        standing(x, told);
        int left = x.undo();
        for (int i = 0; i < 10 && left >= 0; i++) {
            told.add(left);
            pillow(x, told);
            left = x.undo();
        }
        left = x.back();
        for (int i = 0; i < 4 && left >= 0; i++) {
            told.add(left);
            pillow(x, told);
            left = x.back();
        }
        told.add(x.fault());
        told.add(x.lay());
        standing(x, told);
        return told;
    }

    private static void standing(BobbinTalk x, List<Integer> told) {
        for (int what = 0; what < 10; what++) {
            told.add(x.count(what));
        }
        for (int m = 0, makers = x.count(1); m < makers; m++) {
            for (int what = 0; what < 6; what++) {
                told.add(x.maker(m, what));
            }
            told.add(x.said(m, 0));
            told.add(x.said(m, 1));
        }
        for (int k = 0, orders = x.count(2); k < orders; k++) {
            told.add(x.order(k));
        }
        for (int b = 0, bobbins = x.count(0); b < bobbins; b++) {
            told.add(x.bobbin(b, 1));
        }
        told.add(x.who());
        pillow(x, told);
    }

    private static void pillow(BobbinTalk x, List<Integer> told) {
        told.add(lies(x));
        told.add(x.count(3));
        int many = x.count(4);
        told.add(many);
        // the first, one between and the last tell which rows are made, at few calls
        for (int k : new int[] {0, many / 2, many - 1}) {
            if (k >= 0) {
                told.add(x.made(k, 0));
                told.add(x.made(k, 1));
            }
        }
    }
}
