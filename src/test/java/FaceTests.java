import java.lang.reflect.Constructor;
import java.lang.reflect.Field;
import java.lang.reflect.Member;
import java.lang.reflect.Method;
import java.lang.reflect.Modifier;
import java.util.Arrays;
import java.util.Set;
import java.util.TreeSet;

/** The public face is the document's, and nothing but the classes inside can be seen beside it. */
public final class FaceTests {
    private static final String[] METHODS = {
        "public int GridSums.turn(long,long,long,long,long,long)",
        "public boolean GridSums.line(int,long,long,long,long)",
        "public int GridSums.cross(int,int)",
        "public long GridSums.at(int)",
        "public long GridSums.exact(int,int,int) throws java.lang.IndexOutOfBoundsException",
        "public boolean GridSums.corner(long,long)",
        "public long GridSums.area2(int) throws java.lang.IndexOutOfBoundsException",
        "public int GridSums.inside(long,long)",
        "public long GridSums.over(long,long,int) throws java.lang.ArithmeticException",
        "public long GridSums.product(long,long,int) throws java.lang.IndexOutOfBoundsException",
        "public long GridSums.ratio(long,long,long,int) throws java.lang.ArithmeticException",
        "public long GridSums.share(long,int,int) throws java.lang.IndexOutOfBoundsException",
        "public int GridSums.digit(long,int,int) throws java.lang.IndexOutOfBoundsException",
        "public void GridSums.clear()",
        "public int GridSums.count(int)",
    };
    private static final String[] FIELDS = {
        "public static final int GridSums.BAD",
        "public static final int GridSums.APART",
        "public static final int GridSums.CROSSES",
        "public static final int GridSums.ALONG",
        "public static final int GridSums.REFUSED",
    };

    private FaceTests() {
    }

    public static void main(String[] args) {
        Class<?> face = GridSums.class;
        Check.due("public and final", Modifier.PUBLIC | Modifier.FINAL, face.getModifiers());
        Check.tell("methods", sorted(METHODS), visible(face.getDeclaredMethods()));
        Check.tell("fields", sorted(FIELDS), visible(face.getDeclaredFields()));
        Check.tell("constructors", "[public GridSums()]", visible(face.getDeclaredConstructors()));
        constantsHaveTheirValues();
        staticFieldsAreFinal(face);
        privateNamesDiffer(face);
        Check.end();
    }

    private static void constantsHaveTheirValues() {
        Check.due("BAD", -1, GridSums.BAD);
        Check.due("APART", 0, GridSums.APART);
        Check.due("CROSSES", 1, GridSums.CROSSES);
        Check.due("ALONG", 2, GridSums.ALONG);
        Check.due("REFUSED", -2, GridSums.REFUSED);
    }

    private static void staticFieldsAreFinal(Class<?> face) {
        for (Field field : face.getDeclaredFields()) {
            if (Modifier.isStatic(field.getModifiers())) {
                Check.due(field + " is final", true, Modifier.isFinal(field.getModifiers()));
            }
        }
    }

    private static void privateNamesDiffer(Class<?> face) {
        Set<String> publicNames = new TreeSet<>();
        for (Method method : face.getDeclaredMethods()) {
            if (Modifier.isPublic(method.getModifiers())) {
                publicNames.add(method.getName());
            }
        }
        for (Method method : face.getDeclaredMethods()) {
            if (!Modifier.isPublic(method.getModifiers())) {
                Check.due(method + " has a name of its own", false, publicNames.contains(method.getName()));
            }
        }
    }

    private static String sorted(String[] texts) {
        return new TreeSet<>(Arrays.asList(texts)).toString();
    }

    private static String visible(Member[] members) {
        Set<String> texts = new TreeSet<>();
        for (Member member : members) {
            if (!Modifier.isPrivate(member.getModifiers()) && !member.isSynthetic()) {
                texts.add(member.toString());
            }
        }
        return texts.toString();
    }

    private static String visible(Constructor<?>[] constructors) {
        return visible((Member[]) constructors);
    }
}
