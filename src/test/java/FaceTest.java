import java.lang.reflect.Constructor;
import java.lang.reflect.Field;
import java.lang.reflect.Method;
import java.lang.reflect.Modifier;
import java.util.Arrays;
import java.util.Set;
import java.util.TreeSet;

/** The class shows the face of the document, and nothing else (rules 1 and 5 of LANGUAGE.md). */
public final class FaceTest {
    private static final String[] FACE = {
        "int addPatrol() IllegalStateException",
        "int addScout(int,int,int) IndexOutOfBoundsException IllegalArgumentException IllegalStateException",
        "int scout(int,int) IndexOutOfBoundsException",
        "int addTent(int) IllegalArgumentException IllegalStateException",
        "int sleep(int,int) IndexOutOfBoundsException IllegalStateException",
        "long inTent(int) IndexOutOfBoundsException",
        "int findTents()",
        "int count(int) IndexOutOfBoundsException",
        "int giveDuty(int,int,int) IndexOutOfBoundsException IllegalArgumentException IllegalStateException",
        "int duty(int,int) IndexOutOfBoundsException",
        "int points(int) IndexOutOfBoundsException",
        "int findDuties()",
        "int addFood(int) IllegalArgumentException IllegalStateException",
        "int buy(int,int) IndexOutOfBoundsException IllegalArgumentException IllegalStateException",
        "int store(int) IndexOutOfBoundsException",
        "boolean diet(int,int,boolean) IndexOutOfBoundsException",
        "int addMeal() IllegalStateException",
        "int need(int,int,int) IndexOutOfBoundsException IllegalArgumentException",
        "long eaters(int) IndexOutOfBoundsException",
        "int lacks(int,int,int) IndexOutOfBoundsException IllegalArgumentException",
        "int eat(int) IndexOutOfBoundsException IllegalStateException",
        "int table(int) IndexOutOfBoundsException",
        "int addBadge(int) IllegalArgumentException IllegalStateException",
        "int want(int,int,int) IndexOutOfBoundsException IllegalArgumentException",
        "int practise(int,int,int) IndexOutOfBoundsException IllegalArgumentException",
        "int away(int,int) IndexOutOfBoundsException",
        "int earn(int,int) IndexOutOfBoundsException IllegalStateException",
        "int hike(long,int,int) IllegalArgumentException IllegalStateException",
        "int end() IllegalStateException",
        "int day()",
        "double meanAge()",
        "long digest()",
    };

    public static void main(String[] args) {
        Check.same("the class is public and final",
                Modifier.toString(CampBook.class.getModifiers()), "public final");
        Set<String> open = new TreeSet<>();
        Set<String> openNames = new TreeSet<>();
        Set<String> hiddenNames = new TreeSet<>();
        for (Method method : CampBook.class.getDeclaredMethods()) {
            if (Modifier.isPrivate(method.getModifiers())) {
                hiddenNames.add(method.getName());
            } else {
                open.add(told(method));
                openNames.add(method.getName());
                Check.same(method + " is public alone", Modifier.toString(method.getModifiers()), "public");
            }
        }
        Check.same("the methods", open, new TreeSet<>(Arrays.asList(FACE)));
        hiddenNames.retainAll(openNames);
        Check.same("hidden methods with public names", hiddenNames, new TreeSet<String>());
        constructorsAreOne();
        fieldsArePrivate();
        Check.end();
    }

    private static String told(Method method) {
        StringBuilder text = new StringBuilder(method.getReturnType() + " " + method.getName() + "(");
        Class<?>[] types = method.getParameterTypes();
        for (int i = 0; i < types.length; i++) {
            text.append(i == 0 ? "" : ",").append(types[i]);
        }
        text.append(')');
        for (Class<?> thrown : method.getExceptionTypes()) {
            text.append(' ').append(thrown.getSimpleName());
        }
        return text.toString();
    }

    private static void constructorsAreOne() {
        Constructor<?>[] all = CampBook.class.getDeclaredConstructors();
        Check.numbers("constructors", all.length, 1);
        Check.same("it is public", Modifier.toString(all[0].getModifiers()), "public");
        Check.numbers("it takes nothing", all[0].getParameterCount(), 0);
    }

    private static void fieldsArePrivate() {
        for (Field field : CampBook.class.getDeclaredFields()) {
            Check.same(field + " is private", Modifier.isPrivate(field.getModifiers()), true);
            boolean isChangingStatic = Modifier.isStatic(field.getModifiers())
                    && !Modifier.isFinal(field.getModifiers());
            Check.same(field + " is no static that changes", isChangingStatic, false);
        }
    }
}
