import java.lang.management.ManagementFactory;
import java.lang.reflect.Field;
import java.lang.reflect.Method;
import java.lang.reflect.Modifier;
import java.nio.file.Files;
import java.nio.file.Path;
import java.util.ArrayList;
import java.util.Collections;
import java.util.List;
import java.util.regex.Matcher;
import java.util.regex.Pattern;

/** The public face, the rules of ../shared/LANGUAGE.md that a text can be searched for, and the room. */
final class FaceTest {
    private static final Due DUE = new Due("FaceTest");
    private static final Path SOURCE = Path.of("src/main/java/StraightFurrow.java");
    private static final Path DOCUMENT = Path.of("../shared/DOC.md");

    public static void main(String[] args) throws Exception {
        face();
        constants();
        names();
        language();
        anyArguments();
        room();
        DUE.ends();
    }

    private static String type(Class<?> type) {
        return type.getSimpleName();
    }

    private static void face() throws Exception {
        List<String> due = new ArrayList<>();
        Matcher told = Pattern.compile("public (int|long) (\\w+)\\(([^)]*)\\);").matcher(Files.readString(DOCUMENT));
        while (told.find()) {
            String types = told.group(3).replaceAll("(int|long|boolean) \\w+", "$1");
            due.add(told.group(1) + " " + told.group(2) + "(" + types + ")");
        }
        List<String> has = new ArrayList<>();
        for (Method method : StraightFurrow.class.getDeclaredMethods()) {
            if (Modifier.isPrivate(method.getModifiers())) {
                continue;
            }
            List<String> types = new ArrayList<>();
            for (Class<?> parameter : method.getParameterTypes()) {
                types.add(type(parameter));
            }
            boolean isFace = method.getModifiers() == Modifier.PUBLIC;
            has.add((isFace ? "" : "not public: ") + type(method.getReturnType()) + " " + method.getName()
                + "(" + String.join(", ", types) + ")");
        }
        Collections.sort(due);
        Collections.sort(has);
        DUE.is("the document's methods " + due.size(), due.size(), 34);
        DUE.is("face is " + has + ", due is " + due, has.equals(due) ? 1 : 0, 1);
        int modifiers = StraightFurrow.class.getModifiers();
        DUE.is("public and final", modifiers, Modifier.PUBLIC | Modifier.FINAL);
        DUE.is("constructors", StraightFurrow.class.getDeclaredConstructors().length, 1);
        DUE.is("public ones", StraightFurrow.class.getConstructors().length, 1);
    }

    private static void constants() {
        List<String> seen = new ArrayList<>();
        for (Field field : StraightFurrow.class.getDeclaredFields()) {
            if (!Modifier.isPrivate(field.getModifiers())) {
                boolean isConstant = field.getModifiers() == (Modifier.PUBLIC | Modifier.STATIC | Modifier.FINAL);
                seen.add((isConstant ? "" : "no constant: ") + type(field.getType()) + " " + field.getName());
            }
        }
        Collections.sort(seen);
        List<String> due = List.of("int BAD", "int FULL", "int NONE", "int STATE", "long NO");
        DUE.is("constants " + seen, seen.equals(due) ? 1 : 0, 1);
        DUE.is("NONE", StraightFurrow.NONE, -1);
        DUE.is("BAD", StraightFurrow.BAD, -2);
        DUE.is("STATE", StraightFurrow.STATE, -3);
        DUE.is("FULL", StraightFurrow.FULL, -4);
        DUE.is("NO", StraightFurrow.NO, Long.MIN_VALUE);
    }

    /** No method that is not of the face bears the name of one that is, and all inside is static and not public. */
    private static void names() {
        List<String> face = new ArrayList<>();
        for (Method method : StraightFurrow.class.getMethods()) {
            if (method.getDeclaringClass() == StraightFurrow.class) {
                face.add(method.getName());
            }
        }
        List<Class<?>> classes = new ArrayList<>(List.of(StraightFurrow.class.getDeclaredClasses()));
        for (Class<?> inside : classes) {
            boolean isFine = Modifier.isStatic(inside.getModifiers()) && !Modifier.isPublic(inside.getModifiers());
            DUE.is("static and not public: " + inside.getName(), isFine ? 1 : 0, 1);
        }
        DUE.is("some twelve classes", classes.size() <= 11 ? 1 : 0, 1);
        classes.add(StraightFurrow.class);
        for (Class<?> one : classes) {
            int fields = 0;
            for (Field field : one.getDeclaredFields()) {
                fields += Modifier.isStatic(field.getModifiers()) ? 0 : 1;
            }
            DUE.is("some twenty fields: " + one.getName(), fields <= 20 ? 1 : 0, 1);
            for (Method method : one.getDeclaredMethods()) {
                boolean isFace = one == StraightFurrow.class && Modifier.isPublic(method.getModifiers());
                boolean isOther = isFace || !face.contains(method.getName());
                DUE.is("a name of its own: " + one.getName() + "." + method.getName(), isOther ? 1 : 0, 1);
                DUE.is("seven parameters: " + method.getName(), method.getParameterCount() <= 7 ? 1 : 0, 1);
            }
        }
    }

    private static void language() throws Exception {
        String text = Files.readString(SOURCE);
        for (int i = 0; i < text.length(); i++) {
            if (text.charAt(i) > 127) {
                DUE.is("a sign above 127 at " + i, 1, 0);
            }
        }
        String code = text.replaceAll("(?s)/\\*.*?\\*/", "").replaceAll("//[^\n]*", "");
        String[] banned = {"\\bthrows?\\b", "\\btry\\b", "\\bcatch\\b", "\\bsynchronized\\b", "\\bassert\\b",
            "\\binstanceof\\b", "->", "::", "static\\s*\\{", "\\w+Exact\\b", "\\bMap\\b", "\\bSet\\b", "\\bRandom\\b",
            "\\bSystem\\.(?!arraycopy)", "\\bString\\.", "\"\\s*\\+", "\\+\\s*\"", "\\bpackage\\b",
            "\\bimport (?!java\\.util\\.Arrays;)", "\\bdouble\\b", "\\bfloat\\b", "\\bprotected\\b", "while"};
        for (String pattern : banned) {
            Matcher found = Pattern.compile(pattern).matcher(code);
            DUE.is("not in the program: " + pattern, found.find() ? 1 : 0, 0);
        }
        for (String line : code.split("\n")) {
            boolean isState = line.contains("static") && line.contains("=") && !line.contains("final") && !line.contains("(");
            DUE.is("static state: " + line.trim(), isState ? 1 : 0, 0);
        }
    }

    /** Every call with every odd argument answers. */
    private static void anyArguments() throws Exception {
        int[] odd = {Integer.MIN_VALUE, -100, -2, -1, 0, 1, 5, 6, 7, 9, 11, 12, 13, 22, 31, 100, Integer.MAX_VALUE};
        int answers = 0;
        for (boolean isFull : new boolean[] {false, true}) {
            for (Method method : StraightFurrow.class.getMethods()) {
                if (method.getDeclaringClass() != StraightFurrow.class) {
                    continue;
                }
                StraightFurrow x = isFull ? full() : new StraightFurrow();
                Class<?>[] types = method.getParameterTypes();
                int runs = 1;
                for (Class<?> type : types) {
                    runs *= type == int.class ? odd.length : 2;
                }
                for (int run = 0; run < runs; run++) {
                    Object[] with = new Object[types.length];
                    int left = run;
                    for (int i = 0; i < types.length; i++) {
                        int many = types[i] == int.class ? odd.length : 2;
                        with[i] = types[i] == int.class ? (Object) odd[left % many] : (Object) (left % many == 1);
                        left /= many;
                    }
                    method.invoke(x, with);
                    answers++;
                }
            }
        }
        DUE.is("answers", answers > 10000 ? 1 : 0, 1);
    }

    private static StraightFurrow full() {
        StraightFurrow x = Due.in("pass 35;draw 3 x<5|f>3;hold 2 l>3");
        for (int i = 0; i < 6; i++) {
            x.man(i + 1, i, i);
        }
        for (int i = 0; i < 12; i++) {
            x.lay(i, i % 5);
        }
        for (int i = 0; i < 5; i++) {
            x.plead(i, i + 1);
            x.see(i, i + 3, i);
        }
        for (int i = 0; i < 8; i++) {
            x.plan(i % 4, i % 6);
            x.book(i % 6, i);
        }
        x.image();
        Due.feeds(x, "hold 1 x=1");
        return x;
    }

    /** A call makes no object, so a run of many keeps its room: looked at by what the thread was given. */
    private static void room() {
        com.sun.management.ThreadMXBean threads =
            (com.sun.management.ThreadMXBean) ManagementFactory.getThreadMXBean();
        StraightFurrow x = full();
        asksAll(x);
        long ahead = threads.getCurrentThreadAllocatedBytes();
        for (int i = 0; i < 20; i++) {
            asksAll(x);
        }
        long taken = threads.getCurrentThreadAllocatedBytes() - ahead;
        // What asking for the bytes themselves takes is far below one object a call.
        DUE.is("bytes taken by calls: " + taken, taken < 4000 ? 1 : 0, 1);
    }

    private static void asksAll(StraightFurrow x) {
        x.parish();
        x.feed('p');
        x.pass(60);
        x.image();
        x.undo();
        for (int man = 0; man < 6; man++) {
            for (int i = 0; i < 10; i++) {
                x.of(man, i);
                x.told(i);
                x.line(man, i, i);
                x.on(i, i);
                x.when(i);
                x.start(man);
                x.waver(man, i);
                x.clear(man);
                x.bar(i);
                x.see(man, i, i);
                x.from(man);
                x.firm(man, i);
                x.odds(man, i, i);
                x.mean(i);
                x.plan(i, i);
                x.done(i);
                x.book(man, i);
                x.looked();
                x.act(man, i, i);
                x.trace(i);
                x.as(man, i);
                x.count(i);
            }
        }
    }
}
