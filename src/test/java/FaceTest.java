import java.lang.reflect.Constructor;
import java.lang.reflect.Field;
import java.lang.reflect.Method;
import java.lang.reflect.Modifier;
import java.util.ArrayList;
import java.util.List;
import java.util.Set;
import java.util.TreeSet;

/** The face of the class: just what the document shows, and rule 1 of LANGUAGE.md. */
public final class FaceTest {
    private static final String[] FACE = {
        "feed(int,int,int,int,int)int", "end(int)boolean", "line()int", "book()int", "fault(int)int",
        "has(int)int", "letter(int,int)int", "note(int,int)int", "bounds(int,int,int)int",
        "code(int,int,int,int,int)int", "follower(int,int)int", "sings(int,int)int", "breach(int,int,int)int",
        "together(int,int,int)int", "broken(int,int,int)int", "span(int,boolean)int", "ways(int)int",
        "way(int,int,int)int", "signs(int)int", "like(int,int)int", "means(int,int)int", "mean(int)int",
        "mottos(int)int", "common(int)int", "over(int,int)int", "alike(int)int", "unlike()int",
        "rule(int,boolean)int", "meant(int,int)int", "round(int)int", "make(int,int,int)int",
        "shortest(int,int)int", "richest(int,int,int)int", "wrong(int,int)int", "change(int,int)int",
        "draw(int,int,int)int", "image()int", "octet(int)int", "on()boolean",
    };

    public static void main(String[] args) {
        List<String> wrong = new ArrayList<>();
        Class<?> face = OneLine.class;
        if (face.getModifiers() != (Modifier.PUBLIC | Modifier.FINAL)) {
            wrong.add("the class is not public and final");
        }
        Set<String> due = new TreeSet<>(List.of(FACE));
        Set<String> found = new TreeSet<>();
        Set<String> names = new TreeSet<>();
        for (Method method : face.getDeclaredMethods()) {
            if (Modifier.isPublic(method.getModifiers())) {
                found.add(shapeOf(method));
                names.add(method.getName());
            } else if (!Modifier.isPrivate(method.getModifiers())) {
                wrong.add("neither public nor private: " + method);
            }
        }
        if (!due.equals(found)) {
            wrong.add("the face is " + found);
        }
        checkPrivateNames(face, names, wrong);
        for (Field field : face.getDeclaredFields()) {
            boolean constant = field.getName().equals("NONE") || field.getName().equals("NOTHING");
            if (Modifier.isPublic(field.getModifiers()) != constant
                || !constant && !Modifier.isPrivate(field.getModifiers())) {
                wrong.add("field " + field);
            }
        }
        for (Constructor<?> constructor : face.getDeclaredConstructors()) {
            if (!Modifier.isPublic(constructor.getModifiers()) || constructor.getParameterCount() != 0) {
                wrong.add("constructor " + constructor);
            }
        }
        for (Class<?> inside : face.getDeclaredClasses()) {
            int modifiers = inside.getModifiers();
            if (!Modifier.isStatic(modifiers) || Modifier.isPublic(modifiers) || Modifier.isProtected(modifiers)) {
                wrong.add("class " + inside);
            }
            checkPrivateNames(inside, names, wrong);
        }
        if (face.getDeclaredClasses().length > 11) {
            wrong.add("more than twelve classes");
        }
        wrong.forEach(System.out::println);
        System.out.println(wrong.isEmpty() ? "the face is as due" : wrong.size() + " faults of the face");
        System.exit(wrong.isEmpty() ? 0 : 1);
    }

    private static String shapeOf(Method method) {
        List<String> types = new ArrayList<>();
        for (Class<?> type : method.getParameterTypes()) {
            types.add(type.getName());
        }
        return method.getName() + "(" + String.join(",", types) + ")" + method.getReturnType().getName();
    }

    private static void checkPrivateNames(Class<?> where, Set<String> names, List<String> wrong) {
        for (Method method : where.getDeclaredMethods()) {
            boolean open = where == OneLine.class && Modifier.isPublic(method.getModifiers());
            if (!open && names.contains(method.getName())) {
                wrong.add("bears the name of a public one: " + method);
            }
        }
    }
}
