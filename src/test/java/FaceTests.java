import java.lang.reflect.Constructor;
import java.lang.reflect.Field;
import java.lang.reflect.Method;
import java.lang.reflect.Modifier;
import java.util.TreeSet;

/** The public face, and what a reflection can see of the rules of LANGUAGE.md. */
public final class FaceTests {
    private static final String I = "IndexOutOfBoundsException";
    private static final String A = "IllegalArgumentException";
    private static final String S = "IllegalStateException";
    private static final String N = "NoSuchElementException";

    private static final String[] FACE = {
        "int setDate(int,int,int) " + A,
        "boolean setOpen(int,boolean) " + I,
        "int setWay(int,int,int) " + I + " " + A,
        "int act(int,int,int,int,int) " + I + " " + A + " " + S,
        "int drop(int) " + I,
        "int wish(int,int,int) " + I + " " + A,
        "int setGate(int,int) " + I + " " + A,
        "int setReach(int,int,int) " + I + " " + A,
        "int setCrowd(int,int) " + I + " " + A,
        "int setServing(int) " + A,
        "int join(int,int) " + I + " " + S,
        "int leave(int) " + I + " " + S,
        "int pass(int) " + A,
        "int setNeed(int,int) " + I + " " + A,
        "int setShift(int) " + A,
        "int setLoad(int,int,int) " + I + " " + A,
        "int setGenerator(int,int,int,int) " + I + " " + A,
        "int moveAll() " + S,
        "int setPrice(int,int) " + I + " " + A,
        "int ticket(int,int,int) " + I + " " + A + " " + S,
        "int refund(int,int) " + I + " " + N,
        "int resell(int,int,int) " + I + " " + N + " " + S,
        "int payBands()",
        "int lose(int,int) " + I + " " + A,
        "int find(int) " + I + " " + N,
        "int undo() " + S,
        "int dateAt(int,int) " + A,
        "int walk(int,int) " + I,
        "int actAt(int,int) " + I + " " + A,
        "int acts()",
        "int firstIn(int,int,int) " + I + " " + A,
        "boolean clash(int,int) " + I + " " + A,
        "int clashes()",
        "int pleased(boolean)",
        "int evening(int,int) " + I,
        "int eveningAct(int,int,int) " + I + " " + N,
        "int price(int,int) " + I,
        "int listeners(int,int) " + I + " " + A,
        "int outBy()",
        "int cut()",
        "int line(int) " + I,
        "int front(int,boolean) " + I + " " + N,
        "int waitOf(int) " + I,
        "int waits(boolean)",
        "int served()",
        "int helpers(int) " + I,
        "int proof()",
        "int cost()",
        "int isOn(int) " + I + " " + N,
        "int rain(int,int) " + A + " " + S,
        "int movedTo(int) " + I,
        "int ticketAt(int,int) " + I,
        "long balance(int,int) " + A + " " + I,
        "int lost()",
        "double meanEvening(int) " + I,
        "float lineupShare()",
        "long checksum()",
        "int errors()",
    };

    public static void main(String[] args) {
        methods();
        fieldsAndConstructors();
        classesInside();
        Check.end("FaceTests");
    }

    private static void methods() {
        TreeSet<String> due = new TreeSet<>();
        TreeSet<String> names = new TreeSet<>();
        for (String line : FACE) {
            due.add(line);
            names.add(line.substring(line.indexOf(' ') + 1, line.indexOf('(')));
        }
        TreeSet<String> got = new TreeSet<>();
        for (Method method : Festivalgrounds.class.getDeclaredMethods()) {
            if (Modifier.isPublic(method.getModifiers())) {
                got.add(text(method));
            } else {
                Check.same(method + " is private",
                        Modifier.isPrivate(method.getModifiers()), true);
                Check.same(method + " has a public one's name",
                        names.contains(method.getName()), false);
            }
        }
        Check.same("the face", String.join("\n", got), String.join("\n", due));
        for (Class<?> inside : Festivalgrounds.class.getDeclaredClasses()) {
            for (Method method : inside.getDeclaredMethods()) {
                Check.same(method + " has a public one's name",
                        names.contains(method.getName()), false);
                Check.same(method + " has at most seven parameters",
                        method.getParameterCount() <= 7, true);
            }
        }
    }

    private static String text(Method method) {
        StringBuilder text = new StringBuilder(method.getReturnType().getSimpleName());
        text.append(' ').append(method.getName()).append('(');
        for (Class<?> type : method.getParameterTypes()) {
            text.append(text.charAt(text.length() - 1) == '(' ? "" : ",");
            text.append(type.getSimpleName());
        }
        text.append(')');
        for (Class<?> type : method.getExceptionTypes()) {
            text.append(' ').append(type.getSimpleName());
        }
        return text.toString();
    }

    private static void fieldsAndConstructors() {
        for (Field field : Festivalgrounds.class.getDeclaredFields()) {
            boolean isFace = field.getName().equals("NONE");
            Check.same(field + " is public", Modifier.isPublic(field.getModifiers()), isFace);
            Check.same(field + " is private", Modifier.isPrivate(field.getModifiers()), !isFace);
            noOtherStaticState(field);
        }
        Constructor<?>[] constructors = Festivalgrounds.class.getDeclaredConstructors();
        Check.same("constructors", constructors.length, 1);
        Check.same("its parameters", constructors[0].getParameterCount(), 0);
        Check.same("it is public", Modifier.isPublic(constructors[0].getModifiers()), true);
        Check.same("NONE", Festivalgrounds.NONE, -1);
        Check.same("the class is final",
                Modifier.isFinal(Festivalgrounds.class.getModifiers()), true);
        Check.same("the class has no package", Festivalgrounds.class.getPackageName(), "");
    }

    private static void noOtherStaticState(Field field) {
        if (Modifier.isStatic(field.getModifiers())) {
            Check.same(field + " is final", Modifier.isFinal(field.getModifiers()), true);
            Check.same(field + " is a plain constant", field.getType().isPrimitive(), true);
        }
    }

    private static void classesInside() {
        Class<?>[] inside = Festivalgrounds.class.getDeclaredClasses();
        Check.same("some twelve classes", inside.length + 1 <= 12, true);
        for (Class<?> one : inside) {
            Check.same(one + " is private", Modifier.isPrivate(one.getModifiers()), true);
            Check.same(one + " is static", Modifier.isStatic(one.getModifiers()), true);
            int fields = 0;
            for (Field field : one.getDeclaredFields()) {
                noOtherStaticState(field);
                fields += Modifier.isStatic(field.getModifiers()) ? 0 : 1;
            }
            Check.same(one + " has at most twenty fields", fields <= 20, true);
        }
    }
}
