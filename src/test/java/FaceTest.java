import java.io.IOException;
import java.lang.reflect.Constructor;
import java.lang.reflect.Field;
import java.lang.reflect.Method;
import java.lang.reflect.Modifier;
import java.nio.file.Files;
import java.nio.file.Path;
import java.util.Arrays;
import java.util.TreeSet;
import java.util.regex.Matcher;
import java.util.regex.Pattern;

/** The class has the face of the document and nothing more, and its text keeps what can be seen of the language's rules. */
public final class FaceTest {
    private static final String[] FACE = {
        "void setState(int,int,int,int)", "int setAwake(int)", "int vote(int,int)", "int addClock(int,int,int)",
        "int use(int)", "int release(int)", "boolean runs(int)", "int frequency(int)", "int depth()",
        "int breakEven(int)", "int schedule(int,int,int)", "int addEvent(int,int)", "int setRule(int)", "int timers()",
        "int nextWakeup()", "int play(int)", "int now()", "int state()", "long spent()", "int ticksIn(int)",
        "int sleeps()", "int lateness()", "int served()", "int setHarvest(int,int)", "int available()", "int bound()",
        "int shortTicks()", "int plannedWakeups(int)", "int fewestWakeups(int)", "long plannedCost(int)",
        "long leastCost(int)"};

    /** What the rules leave no place for in the program, as far as words tell it. */
    private static final String[] BANNED = {
        "\\bpackage\\b", "\\bimport\\s+(?!java\\.util\\.(ArrayList|List|Arrays|Iterator|NoSuchElementException);)",
        "(?m)^(?!\\s*(case|default)\\b).*->", "::", "\\bsynchronized\\b", "\\bassert\\b", "\\bfinally\\b",
        "\\btry\\s*\\(", "\\bSystem\\b(?!\\.arraycopy)", "\\bThread\\b", "\\bRandom\\b", "\\bObject\\b", "Exact\\b",
        "\\bprotected\\b", "\\bhashCode\\b", "\\bgetMessage\\b", "\\bextends\\s+\\w*Exception\\b",
        "\\bcatch\\s*\\([^)]*(ArrayIndex|NullPointer|ClassCast|NegativeArray|ArrayStore|Throwable|Error|\\bException\\b)",
        "\"\\s*\\+", "\\+\\s*\""};

    private FaceTest() {
    }

    public static void main(String[] args) throws IOException {
        membersAreTheFace();
        exceptionsAreDeclared();
        nestedClassesAreHidden();
        textKeepsTheRules(Files.readString(Path.of("src/main/java/SleepPlanner.java")));
        Check.end("FaceTest");
    }

    private static String signature(Method method) {
        StringBuilder text = new StringBuilder(method.getReturnType().getSimpleName());
        text.append(' ').append(method.getName()).append('(');
        for (Class<?> type : method.getParameterTypes()) {
            text.append(text.charAt(text.length() - 1) == '(' ? "" : ",").append(type.getSimpleName());
        }
        return text.append(')').toString();
    }

    private static void membersAreTheFace() {
        Check.part("the face");
        Check.same("modifiers", SleepPlanner.class.getModifiers(), Modifier.PUBLIC | Modifier.FINAL);
        Constructor<?>[] constructors = SleepPlanner.class.getDeclaredConstructors();
        Check.same("number of constructors", constructors.length, 1);
        Check.same("its parameters", constructors[0].getParameterCount(), 0);
        Check.isTrue("it is public", Modifier.isPublic(constructors[0].getModifiers()));
        TreeSet<String> open = new TreeSet<>();
        TreeSet<String> names = new TreeSet<>();
        for (Method method : SleepPlanner.class.getDeclaredMethods()) {
            if (!Modifier.isPrivate(method.getModifiers())) {
                open.add(signature(method));
                names.add(method.getName());
            }
        }
        Check.sameOutcome("the open methods", open.toString(), new TreeSet<>(Arrays.asList(FACE)).toString());
        for (Method method : SleepPlanner.class.getDeclaredMethods()) {
            if (Modifier.isPrivate(method.getModifiers())) {
                Check.isTrue("a name of its own for " + method.getName(), !names.contains(method.getName()));
            }
        }
        for (Field field : SleepPlanner.class.getDeclaredFields()) {
            Check.isTrue("private " + field.getName(), Modifier.isPrivate(field.getModifiers()));
        }
    }

    private static void exceptionsAreDeclared() {
        Check.part("the throws clauses");
        for (Method method : SleepPlanner.class.getDeclaredMethods()) {
            StringBuilder text = new StringBuilder();
            for (Class<?> thrown : method.getExceptionTypes()) {
                text.append(thrown.getSimpleName()).append(' ');
            }
            if (Modifier.isPublic(method.getModifiers())) {
                Check.sameOutcome(method.getName(), text.toString(), declared(method.getName()));
            }
        }
    }

    private static String declared(String name) {
        switch (name) {
            case "addClock":
                return "IndexOutOfBoundsException IllegalArgumentException IllegalStateException ";
            case "use":
            case "release":
                return "IndexOutOfBoundsException IllegalStateException ";
            case "runs":
            case "frequency":
                return "IndexOutOfBoundsException ";
            case "schedule":
            case "addEvent":
                return "IllegalArgumentException IllegalStateException ";
            case "setState":
            case "setAwake":
            case "vote":
            case "breakEven":
            case "setRule":
            case "play":
            case "ticksIn":
            case "setHarvest":
            case "plannedWakeups":
            case "fewestWakeups":
            case "plannedCost":
            case "leastCost":
                return "IllegalArgumentException ";
            default:
                return "";
        }
    }

    private static void nestedClassesAreHidden() {
        Check.part("rule 11 and the classes inside");
        Class<?>[] inside = SleepPlanner.class.getDeclaredClasses();
        Check.isTrue("some twelve classes", inside.length < 14);
        for (Class<?> each : inside) {
            Check.isTrue("not public " + each.getSimpleName(), !Modifier.isPublic(each.getModifiers()));
            Check.isTrue("not protected " + each.getSimpleName(), !Modifier.isProtected(each.getModifiers()));
            Check.isTrue("static " + each.getSimpleName(), Modifier.isStatic(each.getModifiers()));
            fewFields(each);
        }
        fewFields(SleepPlanner.class);
    }

    private static void fewFields(Class<?> each) {
        long fields = Arrays.stream(each.getDeclaredFields())
                .filter(field -> !Modifier.isStatic(field.getModifiers())).count();
        Check.isTrue("some twenty fields in " + each.getSimpleName(), fields <= 22);
        for (Field field : each.getDeclaredFields()) {
            if (Modifier.isStatic(field.getModifiers())) {
                Check.isTrue("final " + field.getName(), Modifier.isFinal(field.getModifiers()));
            }
        }
    }

    private static void textKeepsTheRules(String text) {
        Check.part("the text");
        String code = text.replaceAll("(?s)/\\*.*?\\*/", "").replaceAll("//[^\n]*", "");
        for (String banned : BANNED) {
            Matcher matcher = Pattern.compile(banned).matcher(code);
            Check.isTrue("none of " + banned, !matcher.find());
        }
        Check.isTrue("signs 1 to 127 alone", text.chars().allMatch(sign -> sign > 0 && sign < 128));
    }
}
