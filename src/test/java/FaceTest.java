import java.lang.reflect.Constructor;
import java.lang.reflect.Field;
import java.lang.reflect.Method;
import java.lang.reflect.Modifier;
import java.util.Arrays;
import java.util.TreeSet;

/** The class has the document's face and nothing else that can be seen from outside (LANGUAGE.md, rule 1). */
public final class FaceTest {
    private static final Check CHECK = new Check("FaceTest");
    private static final String[] INTS = {
        "row 3", "set 3", "copy 5", "drop 1", "feed 1", "town 0", "fault 0", "undo 0", "days 1", "sick 2", "swap 2",
        "pace 2", "quarrel 3", "spoil 2", "gran 2", "child 2", "ahead 3", "withWhom 2", "whole 1", "hungry 1",
        "without 1", "rota 3", "meets 2", "lost 1", "swaps 2", "soon 2", "who 5", "firsts 5", "steps 5", "even 1",
        "drawn 3", "image 1", "restore 1", "kind 1", "as 2", "ask 2", "trace 1", "count 1", "status 0"};

    public static void main(String[] args) {
        Class<?> face = LentGrannies.class;
        CHECK.holds("public and final", Modifier.isPublic(face.getModifiers()) && Modifier.isFinal(face.getModifiers()));
        methods(face);
        fields(face);
        constructors(face);
        CHECK.due("NONE", LentGrannies.NONE, -1000000);
        CHECK.due("BAD", LentGrannies.BAD, -1000001);
        CHECK.due("STATE", LentGrannies.STATE, -1000002);
        CHECK.due("FULL", LentGrannies.FULL, -1000003);
        CHECK.end();
    }

    private static void methods(Class<?> face) {
        TreeSet<String> due = new TreeSet<>();
        for (String s : INTS) {
            due.add("int " + s);
        }
        due.add("long fever 3");
        TreeSet<String> seen = new TreeSet<>();
        TreeSet<String> privates = new TreeSet<>();
        for (Method m : face.getDeclaredMethods()) {
            if (Modifier.isPrivate(m.getModifiers()) || m.isSynthetic()) {
                privates.add(m.getName());
                continue;
            }
            boolean ints = Arrays.stream(m.getParameterTypes()).allMatch(t -> t == int.class);
            CHECK.holds(m + " is public, takes ints", ints && Modifier.isPublic(m.getModifiers()));
            seen.add(m.getReturnType() + " " + m.getName() + " " + m.getParameterCount());
        }
        CHECK.holds("methods " + seen, seen.equals(due));
        for (Class<?> inner : face.getDeclaredClasses()) {
            CHECK.holds(inner + " is static", Modifier.isStatic(inner.getModifiers()));
            for (Method m : inner.getDeclaredMethods()) {
                privates.add(m.getName());
            }
        }
        for (String s : due) {
            CHECK.holds("no method within is called " + s, !privates.contains(s.split(" ")[1]));
        }
    }

    private static void fields(Class<?> face) {
        TreeSet<String> seen = new TreeSet<>();
        for (Field f : face.getDeclaredFields()) {
            if (!Modifier.isPrivate(f.getModifiers())) {
                seen.add(f.getName());
            }
            CHECK.holds(f + ": static fields are final",
                !Modifier.isStatic(f.getModifiers()) || Modifier.isFinal(f.getModifiers()));
        }
        CHECK.holds("fields " + seen, seen.equals(new TreeSet<>(Arrays.asList("NONE", "BAD", "STATE", "FULL"))));
    }

    private static void constructors(Class<?> face) {
        Constructor<?>[] all = face.getDeclaredConstructors();
        CHECK.holds("one public constructor without numbers",
            all.length == 1 && all[0].getParameterCount() == 0 && Modifier.isPublic(all[0].getModifiers()));
    }
}
