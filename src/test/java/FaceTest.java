import java.lang.reflect.Constructor;
import java.lang.reflect.Field;
import java.lang.reflect.Member;
import java.lang.reflect.Method;
import java.lang.reflect.Modifier;
import java.util.ArrayList;
import java.util.Arrays;
import java.util.Collections;
import java.util.List;

/** The public face is the document's and nothing more, and no private method bears a public one's name. */
public final class FaceTest {
    private static final String[] METHODS = {
        "public boolean ServiceDrawer.holds(int) throws java.lang.IllegalArgumentException",
        "public int ServiceDrawer.at(int) throws java.lang.IndexOutOfBoundsException",
        "public int ServiceDrawer.check()",
        "public int ServiceDrawer.count(int) throws java.lang.IllegalArgumentException",
        "public int ServiceDrawer.draw(int,int) throws java.lang.IndexOutOfBoundsException",
        "public int ServiceDrawer.find(int,int,int,int) "
            + "throws java.lang.IllegalArgumentException,java.lang.IndexOutOfBoundsException",
        "public int ServiceDrawer.part(int,int) throws java.lang.IllegalArgumentException",
        "public int ServiceDrawer.print()",
        "public int ServiceDrawer.shrink(int) "
            + "throws java.lang.IllegalArgumentException,java.lang.IllegalStateException",
        "public int ServiceDrawer.sign(long,int) "
            + "throws java.lang.IndexOutOfBoundsException,java.lang.UnsupportedOperationException",
        "public int ServiceDrawer.way(int,int) throws java.lang.IllegalArgumentException",
        "public void ServiceDrawer.leave(int,boolean) "
            + "throws java.lang.IllegalArgumentException,java.lang.IllegalStateException",
    };

    private static boolean hidden(Member member) {
        return Modifier.isPrivate(member.getModifiers()) || member.isSynthetic();
    }

    public static void main(String[] args) {
        Class<?> type = ServiceDrawer.class;
        Due.same("the class", Modifier.toString(type.getModifiers()), "public final");
        List<String> open = new ArrayList<>();
        List<String> names = new ArrayList<>();
        for (Method method : type.getDeclaredMethods()) {
            if (!hidden(method)) {
                open.add(method.toGenericString());
                names.add(method.getName());
            }
        }
        Collections.sort(open);
        Due.same("the methods", open.toString(), Arrays.toString(METHODS));
        for (Method method : type.getDeclaredMethods()) {
            if (hidden(method) && names.contains(method.getName())) {
                Due.same("a private method", method.getName(), "a name of its own");
            }
        }
        for (Constructor<?> constructor : type.getDeclaredConstructors()) {
            Due.same("a constructor", constructor.toGenericString(), "public ServiceDrawer()");
        }
        for (Field field : type.getDeclaredFields()) {
            if (!hidden(field)) {
                Due.same("a field", field.toGenericString(), "private");
            }
        }
        for (Class<?> inside : type.getDeclaredClasses()) {
            Due.same(inside.getName(), Modifier.isStatic(inside.getModifiers())
                && !Modifier.isPublic(inside.getModifiers()) ? "static, not public" : "else", "static, not public");
        }
        Due.end();
    }
}
