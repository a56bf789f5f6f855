import java.lang.reflect.Constructor;
import java.lang.reflect.Field;
import java.lang.reflect.Method;
import java.lang.reflect.Modifier;
import java.util.Arrays;
import java.util.Set;
import java.util.TreeSet;

/** The public face is the document's, and nothing else of the class can be seen from outside. */
public final class FondsRoomFace {
    private static final String[] FACE = {
        "public FondsRoom()",
        "public static final int FondsRoom.NONE",
        "public boolean FondsRoom.ask(int,int)",
        "public boolean FondsRoom.back(int,int)",
        "public boolean FondsRoom.bell(int)",
        "public boolean FondsRoom.copy(int,int,int,boolean)",
        "public boolean FondsRoom.mishap(int,int,int)",
        "public boolean FondsRoom.people(int,int,int)",
        "public boolean FondsRoom.read(int,int)",
        "public int FondsRoom.about(int,int)",
        "public int FondsRoom.box(int,boolean)",
        "public int FondsRoom.count(int)",
        "public int FondsRoom.desk(boolean)",
        "public int FondsRoom.event(int,int) throws java.util.NoSuchElementException",
        "public int FondsRoom.held(int,int)",
        "public int FondsRoom.place(int)",
        "public int FondsRoom.queue(int,int)",
        "public int FondsRoom.reader(int,int,boolean)",
        "public int FondsRoom.refused(int,int)",
        "public int FondsRoom.run(int)",
        "public int FondsRoom.seated(int)",
        "public int FondsRoom.whose(int)",
        "public int FondsRoom.worker(int,int,int)",
    };

    public static void main(String[] args) {
        Set<String> seen = new TreeSet<>();
        for (Field field : FondsRoom.class.getDeclaredFields()) {
            if (!Modifier.isPrivate(field.getModifiers())) {
                seen.add(field.toString());
            }
        }
        for (Constructor<?> made : FondsRoom.class.getDeclaredConstructors()) {
            seen.add(made.toString());
        }
        Set<String> names = new TreeSet<>();
        for (Method method : FondsRoom.class.getMethods()) {
            names.add(method.getName());
        }
        for (Method method : FondsRoom.class.getDeclaredMethods()) {
            // No private method bears the name of a public one.
            if (!Modifier.isPrivate(method.getModifiers()) || names.contains(method.getName())) {
                seen.add(method.toString());
            }
        }
        for (Class<?> inside : FondsRoom.class.getDeclaredClasses()) {
            int how = inside.getModifiers();
            if (!Modifier.isStatic(how) || Modifier.isPublic(how) || Modifier.isProtected(how)) {
                seen.add(inside.toString());
            }
        }
        Set<String> due = new TreeSet<>(Arrays.asList(FACE));
        boolean isFinal = Modifier.isFinal(FondsRoom.class.getModifiers());
        if (!seen.equals(due) || !isFinal) {
            System.out.println("the face is " + seen + ", due is " + due + (isFinal ? "" : "; it is not final"));
            System.out.println("0 passed, 1 failed");
            System.exit(1);
        }
        System.out.println("1 passed, 0 failed");
    }
}
