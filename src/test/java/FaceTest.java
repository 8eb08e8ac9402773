import java.lang.reflect.Field;
import java.lang.reflect.Method;
import java.lang.reflect.Modifier;
import java.util.TreeSet;

/** The public face, and promise 1: a new object knows nothing. */
public final class FaceTest {
    private static final String[] METHODS = {"feed(int,int,int,int,int)", "end(int)", "entry(int,int)", "forget()",
        "sender(int)", "permission()", "cost(int)", "message()", "seals()", "sealed(int,int)", "plainBody(boolean)",
        "plainField(int,boolean)", "house()", "wish(int)", "digest()", "octet(int)"};

    public static void main(String[] args) {
        constants();
        members();
        newObject();
        objectsAreApart();
        Gate.finish("FaceTest");
    }

    private static void constants() {
        Gate.due("REFUSED", PostGate.REFUSED, -1);
        Gate.due("NONE", PostGate.NONE, -2);
        Gate.due("FULL", PostGate.FULL, -3);
    }

    private static void members() {
        TreeSet<String> due = new TreeSet<>(java.util.List.of(METHODS));
        TreeSet<String> got = new TreeSet<>();
        for (Method method : PostGate.class.getDeclaredMethods()) {
            if (Modifier.isPrivate(method.getModifiers()) || method.isSynthetic()) {
                continue;
            }
            StringBuilder text = new StringBuilder(method.getName()).append("(");
            for (Class<?> type : method.getParameterTypes()) {
                text.append(text.charAt(text.length() - 1) == '(' ? "" : ",").append(type.getName());
            }
            got.add(text.append(")").toString());
            Gate.due(method.getName() + " is public", Modifier.isPublic(method.getModifiers()) ? 1 : 0, 1);
            Gate.due(method.getName() + " answers an int", method.getReturnType() == int.class ? 1 : 0, 1);
        }
        Gate.due("the methods", got.toString(), due.toString());
        TreeSet<String> fields = new TreeSet<>();
        for (Field field : PostGate.class.getDeclaredFields()) {
            if (!Modifier.isPrivate(field.getModifiers())) {
                fields.add(field.getName());
            }
        }
        Gate.due("the fields", fields.toString(), "[FULL, NONE, REFUSED]");
        Gate.due("final", Modifier.isFinal(PostGate.class.getModifiers()) ? 1 : 0, 1);
    }

    private static void newObject() {
        PostGate gate = new PostGate();
        Gate.due("end(0)", gate.end(0), 0);
        Gate.due("end(1)", gate.end(1), -1);
        Gate.due("forget()", gate.forget(), 0);
        Gate.due("permission()", gate.permission(), -1);
        Gate.due("cost(0)", gate.cost(0), 0);
        Gate.due("cost(1)", gate.cost(1), 0);
        Gate.due("seals()", gate.seals(), 0);
        Gate.due("sealed(0, 0)", gate.sealed(0, 0), -2);
        Gate.due("plainBody(false)", gate.plainBody(false), -2);
        Gate.due("plainField(0, false)", gate.plainField(0, false), -2);
        Gate.due("wish(0)", gate.wish(0), -1);
        Gate.due("octet(-1)", gate.octet(-1), 0);
        Gate.due("octet(0)", gate.octet(0), -2);
    }

    private static void objectsAreApart() {
        Gate one = new Gate();
        Gate other = new Gate();
        one.text("a.com", "v=spf1 all");
        one.sender("x@a.com", 1);
        one.message("From: x@a.com\n");
        one.house("a.b.c");
        Gate.due("permission() of the one", one.gate.permission(), 2);
        Gate.due("permission() of the other", other.gate.permission(), -1);
        Gate.due("forget() of the other", other.gate.forget(), 0);
        Gate.due("plainBody of the other", other.gate.plainBody(true), -2);
        Gate.due("octet(-1) of the other", other.gate.octet(-1), 0);
    }
}
