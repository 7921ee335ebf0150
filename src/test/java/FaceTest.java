import java.lang.reflect.Constructor;
import java.lang.reflect.Field;
import java.lang.reflect.Method;
import java.lang.reflect.Modifier;
import java.util.Set;
import java.util.TreeSet;

/** The class has the document's face, and nothing else that can be seen from outside. */
public final class FaceTest {
    private static final Dues DUES = new Dues("FaceTest");
    private static final String[] FACE = {
        "int zone(int,int) Index Argument", "int carrier(int,int) Index",
        "int tariff(int,int,int,int,int) Argument State", "int card() State",
        "int tie(int,int) Index Argument State", "boolean lose(int,boolean) Index", "int pay(int,int) Index Argument",
        "int late(int,int,int) Index Argument", "int tap(int,int,int,boolean,int,int) Index Argument State",
        "int close() State", "int settle(int,int) Index State", "int refund(int,int,int) Index State",
        "int ofCard(int,int) Index Argument", "int ofDay(int,int,int) Index Argument",
        "int ofLeg(int,int,int,int) Index Argument", "int ofJourney(int,int,int,int) Index Argument",
        "int ofWeek(int,int,int) Index Argument", "int share(int,int,int) Index",
        "int check(int,int,int) Index Argument", "int many(int) Argument", "double meanFare(int) Index",
        "int wouldCost(int,int,int,boolean,int,int) Index Argument", "int guess(int,int,int,boolean) Index",
        "int worth(int,int,int) Index Argument", "long digest()"};

    public static void main(String[] args) {
        DUES.isTrue("the class is public and final", TapCap.class.getModifiers() == (Modifier.PUBLIC | Modifier.FINAL));
        DUES.isTrue("it extends Object", TapCap.class.getSuperclass() == Object.class);
        DUES.isTrue("it has no interfaces", TapCap.class.getInterfaces().length == 0);
        constructors();
        methods();
        fields();
        classesInside();
        DUES.end();
    }

    private static void constructors() {
        Constructor<?>[] all = TapCap.class.getDeclaredConstructors();
        DUES.due("constructors", all.length, 1);
        DUES.isTrue("it is public", Modifier.isPublic(all[0].getModifiers()));
        DUES.due("it takes nothing", all[0].getParameterCount(), 0);
        DUES.due("it throws nothing", all[0].getExceptionTypes().length, 0);
    }

    private static void methods() {
        Set<String> seen = new TreeSet<>();
        Set<String> publicNames = new TreeSet<>();
        Set<String> privateNames = new TreeSet<>();
        for (Method method : TapCap.class.getDeclaredMethods()) {
            boolean isPublic = Modifier.isPublic(method.getModifiers());
            boolean isPrivate = Modifier.isPrivate(method.getModifiers());
            DUES.isTrue(method + " is public or private", isPublic || isPrivate);
            (isPublic ? publicNames : privateNames).add(method.getName());
            if (isPublic) {
                seen.add(told(method));
                DUES.isTrue(method + " is not static", !Modifier.isStatic(method.getModifiers()));
            }
        }
        Set<String> due = new TreeSet<>(Set.of(FACE));
        DUES.isTrue("the public methods are " + due + ", not " + seen + ": that", seen.equals(due));
        for (Class<?> inside : TapCap.class.getDeclaredClasses()) {
            for (Method method : inside.getDeclaredMethods()) {
                privateNames.add(method.getName());
            }
        }
        privateNames.retainAll(publicNames);
        DUES.isTrue("private methods with a public one's name " + privateNames + ": none", privateNames.isEmpty());
    }

    private static String told(Method method) {
        StringBuilder text = new StringBuilder();
        text.append(method.getReturnType().getName()).append(' ').append(method.getName()).append('(');
        for (Class<?> type : method.getParameterTypes()) {
            text.append(text.charAt(text.length() - 1) == '(' ? "" : ",").append(type.getName());
        }
        text.append(')');
        for (Class<?> thrown : method.getExceptionTypes()) {
            text.append(thrown == Rides.INDEX ? " Index" : "");
            text.append(thrown == Rides.ARGUMENT ? " Argument" : "");
            text.append(thrown == Rides.STATE ? " State" : "");
        }
        return text.toString();
    }

    private static void fields() {
        for (Field field : TapCap.class.getDeclaredFields()) {
            int modifiers = field.getModifiers();
            DUES.isTrue(field + " is private", Modifier.isPrivate(modifiers));
            DUES.isTrue(field + " is final if static", !Modifier.isStatic(modifiers) || Modifier.isFinal(modifiers));
        }
    }

    private static void classesInside() {
        Class<?>[] inside = TapCap.class.getDeclaredClasses();
        DUES.isTrue("some twelve classes in all", inside.length + 1 <= 12);
        for (Class<?> one : inside) {
            DUES.isTrue(one + " is private or package-visible",
                    !Modifier.isPublic(one.getModifiers()) && !Modifier.isProtected(one.getModifiers()));
            DUES.isTrue(one + " has some twenty fields", one.getDeclaredFields().length <= 20);
        }
    }
}
