import java.lang.reflect.Field;
import java.lang.reflect.Member;
import java.lang.reflect.Method;
import java.lang.reflect.Modifier;
import java.util.ArrayList;
import java.util.Arrays;
import java.util.List;
import java.util.TreeSet;

/** The face of the class is that of the document, and nothing else of it is open. */
public final class FaceTest {
    private static final Checks c = new Checks("FaceTest");
    private static final String[] METHODS = {
        "int letters(long)", "int blank()", "int fault(int)", "int street()", "int carts()", "int cart(int,int)",
        "int cell(int,int)", "int as(int,int)", "int set(int)", "int grit(int)", "int blow(int,int)",
        "int ram(int,int,int)", "int rings(int)", "int proud(int,int,int,int)", "int until(int,int)", "int uneven()",
        "int evenest(int,int)", "int borne(int,int,int)", "int bearer(int,int)", "int water(int)", "int seed(int)",
        "int years(int,int)", "int would(int,int)", "int mend(int,int)", "int first(int,int,int,int)",
        "int trench(int,int,int)", "int heap(int)", "int fits(int,int)", "int gaps(int,int,int)",
        "int shake(int,int,int)", "int worst(int)", "int image()", "int restore()", "int count(int)", "long digest()"};

    public static void main(String[] args) {
        Class<?> face = RammedCobbles.class;
        c.due("the class is public and final", face.getModifiers(), Modifier.PUBLIC | Modifier.FINAL);
        c.due("constructors", face.getDeclaredConstructors().length, 1);
        c.due("the constructor is public", face.getDeclaredConstructors()[0].getModifiers(), Modifier.PUBLIC);
        c.due("it takes nothing", face.getDeclaredConstructors()[0].getParameterCount(), 0);
        constants();
        methods(face);
        fields(face);
        for (Class<?> inside : face.getDeclaredClasses()) {
            c.due(inside + " is static", Modifier.isStatic(inside.getModifiers()) ? 1 : 0, 1);
            c.due(inside + " is not open", inside.getModifiers() & (Modifier.PUBLIC | Modifier.PROTECTED), 0);
        }
        c.end();
    }

    private static void constants() {
        c.due("NONE", RammedCobbles.NONE, -1);
        c.due("UNKNOWN", RammedCobbles.UNKNOWN, -101);
        c.due("OUTSIDE", RammedCobbles.OUTSIDE, -102);
        c.due("STATE", RammedCobbles.STATE, -103);
        c.due("FULL", RammedCobbles.FULL, -104);
    }

    private static void methods(Class<?> face) {
        TreeSet<String> open = new TreeSet<>();
        List<String> hidden = new ArrayList<>();
        List<String> openNames = new ArrayList<>();
        for (Method method : face.getDeclaredMethods()) {
            if (Modifier.isPrivate(method.getModifiers())) {
                hidden.add(method.getName());
            } else {
                openNames.add(method.getName());
                open.add((Modifier.isPublic(method.getModifiers()) ? "" : "not public ") + told(method));
            }
        }
        TreeSet<String> want = new TreeSet<>(Arrays.asList(METHODS));
        for (String method : want) {
            c.due("there is " + method, open.contains(method) ? 1 : 0, 1);
        }
        for (String method : open) {
            c.due("the document has " + method, want.contains(method) ? 1 : 0, 1);
        }
        for (String name : hidden) {
            c.due("no private method is called " + name, openNames.contains(name) ? 1 : 0, 0);
        }
    }

    private static String told(Method method) {
        StringBuilder text = new StringBuilder(method.getReturnType().getName());
        text.append(' ').append(method.getName()).append('(');
        for (Class<?> type : method.getParameterTypes()) {
            text.append(text.charAt(text.length() - 1) == '(' ? "" : ",").append(type.getName());
        }
        return text.append(')').toString();
    }

    private static void fields(Class<?> face) {
        List<String> constants = List.of("NONE", "UNKNOWN", "OUTSIDE", "STATE", "FULL");
        for (Field field : face.getDeclaredFields()) {
            boolean isConstant = constants.contains(field.getName());
            int open = Modifier.PUBLIC | Modifier.STATIC | Modifier.FINAL;
            c.due("field " + field.getName(), isConstant ? field.getModifiers() : hiddenOf(field),
                    isConstant ? open : 1);
        }
    }

    private static int hiddenOf(Member member) {
        boolean isState = Modifier.isStatic(member.getModifiers()) && !Modifier.isFinal(member.getModifiers());
        return Modifier.isPrivate(member.getModifiers()) && !isState ? 1 : 0;
    }
}
