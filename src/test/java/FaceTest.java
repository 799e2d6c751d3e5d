import java.lang.reflect.Constructor;
import java.lang.reflect.Field;
import java.lang.reflect.Member;
import java.lang.reflect.Method;
import java.lang.reflect.Modifier;
import java.util.Arrays;
import java.util.Set;
import java.util.TreeSet;

/** The public face is the document's, and there is nothing else to be seen (LANGUAGE.md, rule 1). */
public final class FaceTest {
    private static final String[] FACE = {
        "public KindTables(int,int)",
        "public int KindTables.example(int) throws java.lang.IndexOutOfBoundsException,java.lang.IllegalStateException",
        "public boolean KindTables.value(int,int,int) throws java.lang.IndexOutOfBoundsException,java.lang.IllegalArgumentException",
        "public int KindTables.teach(int,int) throws java.lang.IndexOutOfBoundsException",
        "public int KindTables.width(int,int) throws java.lang.IndexOutOfBoundsException,java.lang.IllegalArgumentException",
        "public int KindTables.cell(int,int) throws java.lang.IndexOutOfBoundsException",
        "public int KindTables.votes(int,int) throws java.lang.IndexOutOfBoundsException",
        "public int KindTables.tell(int) throws java.lang.IndexOutOfBoundsException",
        "public int KindTables.bound(int) throws java.lang.IllegalArgumentException",
        "public int KindTables.prefer(int) throws java.lang.IndexOutOfBoundsException",
        "public int KindTables.wrong(int,int,int) throws java.lang.IndexOutOfBoundsException",
        "public int KindTables.right(int) throws java.lang.IndexOutOfBoundsException",
        "public int KindTables.best(int) throws java.lang.IndexOutOfBoundsException",
        "public int KindTables.unknown()",
        "public int KindTables.mixed(int,int) throws java.lang.IndexOutOfBoundsException",
        "public int KindTables.groups(int) throws java.lang.IllegalArgumentException",
        "public int KindTables.nearest(int,int) throws java.lang.IndexOutOfBoundsException,java.lang.IllegalArgumentException",
        "public int KindTables.distance(int,int) throws java.lang.IndexOutOfBoundsException",
        "public int KindTables.haul(int,int) throws java.lang.IllegalArgumentException,java.lang.IllegalStateException",
        "public int KindTables.grams(int,int,int) throws java.lang.IndexOutOfBoundsException,java.lang.IllegalArgumentException",
        "public long KindTables.share(int,int,int,int) throws java.lang.IndexOutOfBoundsException,java.lang.IllegalArgumentException",
        "public int KindTables.law(int,int,int) throws java.lang.IndexOutOfBoundsException,java.lang.IllegalArgumentException,java.lang.IllegalStateException",
        "public int KindTables.strength(int,int) throws java.lang.IndexOutOfBoundsException",
        "public int KindTables.length(int,int) throws java.lang.IndexOutOfBoundsException",
        "public int KindTables.count(int)",
        "public static final int KindTables.NONE",
    };

    public static void main(String[] args) {
        Checks checks = new Checks();
        Set<String> want = new TreeSet<>(Arrays.asList(FACE));
        Set<String> got = new TreeSet<>();
        for (Constructor<?> one : KindTables.class.getDeclaredConstructors()) {
            keepVisible(got, one, one.toString());
        }
        for (Method one : KindTables.class.getDeclaredMethods()) {
            keepVisible(got, one, one.toString());
        }
        for (Field one : KindTables.class.getDeclaredFields()) {
            keepVisible(got, one, one.toString());
        }
        for (String one : want) {
            checks.due("there is " + one, true, got.contains(one));
        }
        for (String one : got) {
            checks.due("the document has " + one, true, want.contains(one));
        }
        int modifiers = KindTables.class.getModifiers();
        checks.due("the class is public and final", true, Modifier.isPublic(modifiers) && Modifier.isFinal(modifiers));
        checks.due("NONE", -1, KindTables.NONE);
        checks.end();
    }

    private static void keepVisible(Set<String> into, Member one, String text) {
        if (!Modifier.isPrivate(one.getModifiers()) && !one.isSynthetic()) {
            into.add(text);
        }
    }
}
