import java.lang.reflect.Constructor;
import java.lang.reflect.Field;
import java.lang.reflect.Method;
import java.lang.reflect.Modifier;
import java.util.Set;
import java.util.TreeSet;

/** The members that can be seen from outside are the document's, and no others. */
public final class FaceTest {
    public static void main(String[] args) {
        Due.about("the face");
        Set<String> want = new TreeSet<>(Set.of(
            "public JamRules()",
            "public int JamRules.sensor(long)",
            "public int JamRules.item(long,long)",
            "public int JamRules.edge(int,boolean,long)",
            "public int JamRules.doubt(int,int)",
            "public int JamRules.cause(int)"));
        want.addAll(Set.of(
            "public int JamRules.step(int,int)",
            "public int JamRules.feed(int)",
            "public int JamRules.listed(int)",
            "public int JamRules.rule(int,int,boolean)",
            "public int JamRules.plant(int,long)",
            "public int JamRules.alarm(int,int)",
            "public int JamRules.count(int)",
            "public boolean JamRules.goesOn()"));
        for (String name : new String[] {"UNKNOWN", "OUTSIDE", "STATE", "ROOM"}) {
            want.add("public static final int JamRules." + name);
        }
        Set<String> got = new TreeSet<>();
        for (Constructor<?> c : JamRules.class.getDeclaredConstructors()) {
            got.add(c.toString());
        }
        for (Method m : JamRules.class.getDeclaredMethods()) {
            if (!Modifier.isPrivate(m.getModifiers())) {
                got.add(m.toString());
            }
        }
        for (Field f : JamRules.class.getDeclaredFields()) {
            if (!Modifier.isPrivate(f.getModifiers())) {
                got.add(f.toString());
            }
        }
        for (String member : want) {
            Due.is(member, true, got.contains(member));
        }
        for (String member : got) {
            Due.is(member + " is in the document", true, want.contains(member));
        }
        Due.is("public and final", Modifier.PUBLIC | Modifier.FINAL, JamRules.class.getModifiers());
        Due.is("UNKNOWN", -11, JamRules.UNKNOWN);
        Due.is("OUTSIDE", -12, JamRules.OUTSIDE);
        Due.is("STATE", -13, JamRules.STATE);
        Due.is("ROOM", -14, JamRules.ROOM);
        privateNamesDiffer();
        Due.end();
    }

    private static void privateNamesDiffer() {
        for (Method shown : JamRules.class.getMethods()) {
            for (Method own : JamRules.class.getDeclaredMethods()) {
                if (Modifier.isPrivate(own.getModifiers())) {
                    Due.is("a private " + own.getName(), false, own.getName().equals(shown.getName()));
                }
            }
        }
    }
}
