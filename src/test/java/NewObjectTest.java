import java.lang.reflect.Constructor;
import java.lang.reflect.Field;
import java.lang.reflect.Member;
import java.lang.reflect.Method;
import java.lang.reflect.Modifier;
import java.util.Arrays;
import java.util.TreeSet;

/** The face, and promise 1: a new object has an empty tape and no words. */
public final class NewObjectTest {
    private static final int[] ODD = {Integer.MIN_VALUE, -2, -1, 0, 1, 2, 16384, 65536, Integer.MAX_VALUE};

    public static void main(String[] args) {
        Due due = new Due();
        emptyAtFirst(due);
        emptyAfterAnEmptyCut(due);
        objectsAreApart(due);
        face(due);
        due.end();
    }

    private static void emptyAtFirst(Due due) {
        Counted x = new Counted();
        due.is("words() of a new object", x.words(), 0);
        due.is("texts() of a new object", x.texts(), 0);
        due.is("place() of a new object", x.place(), 0);
        nothingThere(due, x);
        due.is("the first type()", x.type(65, 1), 1);
        due.is("place() before a cut()", x.place(), 0);
        due.is("words() before a cut()", x.words(), 0);
        nothingThere(due, x);
    }

    private static void emptyAfterAnEmptyCut(Due due) {
        Counted x = new Counted();
        due.is("cut() of no bytes", x.cut(), 0);
        due.is("place() behind it", x.place(), 0);
        due.is("words() behind it", x.words(), 0);
        due.is("texts() behind it", x.texts(), 0);
    }

    private static void nothingThere(Due due, Counted x) {
        for (int w : ODD) {
            due.is("kind(" + w + ")", x.kind(w), -1);
            due.is("number(" + w + ")", x.number(w), -1);
            due.is("begin(" + w + ")", x.begin(w), -1);
            due.is("size(" + w + ")", x.size(w), -1);
            due.is("at(" + w + ", 0)", x.at(w, 0), -1);
            due.is("at(0, " + w + ")", x.at(0, w), -1);
        }
    }

    private static void objectsAreApart(Due due) {
        Counted x = new Counted();
        Counted y = new Counted();
        Due.type(x, "/a {b} 7");
        due.is("type() on another object", Due.type(y, "zz"), 2);
        due.is("one of two objects", Due.seen(x, x.cut()), "5 @8: 4=0@0 6=3@3 3=1@4 7=1@5 1=7@7 | 'a' 'b'");
        due.is("the other", Due.seen(y, y.cut()), "1 @2: 3=0@0 | 'zz'");
        due.is("the first again", Due.seen(x, 5), "5 @8: 4=0@0 6=3@3 3=1@4 7=1@5 1=7@7 | 'a' 'b'");
    }

    private static void face(Due due) {
        Class<?> c = PageWords.class;
        due.is("BAD", PageWords.BAD, -1);
        due.is("FULL", PageWords.FULL, -3);
        due.is("public and final", Modifier.isPublic(c.getModifiers()) && Modifier.isFinal(c.getModifiers()) ? 1 : 0, 1);
        TreeSet<String> seen = new TreeSet<>();
        for (Field f : c.getDeclaredFields()) {
            addVisible(seen, f, f.getName());
        }
        for (Constructor<?> m : c.getDeclaredConstructors()) {
            addVisible(seen, m, "new" + Arrays.toString(m.getParameterTypes()));
        }
        for (Method m : c.getDeclaredMethods()) {
            addVisible(seen, m, m.getReturnType() + " " + m.getName() + Arrays.toString(m.getParameterTypes()));
        }
        due.is("what can be seen of the class", seen.toString(), "[BAD, FULL, int at[int, int], int begin[int], int cut[], "
                + "int kind[int], int number[int], int place[], int size[int], int texts[], int type[long, int], "
                + "int words[], new[]]");
    }

    private static void addVisible(TreeSet<String> seen, Member m, String shown) {
        if (!Modifier.isPrivate(m.getModifiers())) {
            seen.add(shown + (Modifier.isPublic(m.getModifiers()) ? "" : " not public"));
        }
    }
}
