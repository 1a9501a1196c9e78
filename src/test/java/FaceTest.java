import java.lang.reflect.Constructor;
import java.lang.reflect.Field;
import java.lang.reflect.Member;
import java.lang.reflect.Method;
import java.lang.reflect.Modifier;
import java.util.ArrayList;
import java.util.Collections;
import java.util.List;

/** The class has the document's face, and nothing beside it that others could see. */
public final class FaceTest {
    private static final String[] FACE = {
        "public static final int StatuteBench.NONE",
        "public StatuteBench()",
        "public int StatuteBench.feed(int,int,int,int,int)",
        "public int StatuteBench.back(int)",
        "public int StatuteBench.read()",
        "public int StatuteBench.place()",
        "public boolean StatuteBench.clock(int)",
        "public int StatuteBench.testify(int,boolean,int,int,int,int,int)",
        "public boolean StatuteBench.number(int,int,int)",
        "public int StatuteBench.judge(int,int)",
        "public int StatuteBench.status(int,boolean,int,int)",
        "public int StatuteBench.why(int,boolean,int,int,int)",
        "public long StatuteBench.sum(int,int,int)",
        "public int StatuteBench.text()",
        "public int StatuteBench.out(int)",
        "public int StatuteBench.rule(int,int)",
        "public int StatuteBench.law(int,int)",
        "public int StatuteBench.above(int,int)",
        "public int StatuteBench.count(int)",
    };

    public static void main(String[] args) {
        List<String> due = new ArrayList<>(List.of(FACE));
        List<String> got = new ArrayList<>();
        for (Field field : StatuteBench.class.getDeclaredFields()) {
            addSeen(got, field, field.toString());
        }
        for (Constructor<?> constructor : StatuteBench.class.getDeclaredConstructors()) {
            addSeen(got, constructor, constructor.toString());
        }
        for (Method method : StatuteBench.class.getDeclaredMethods()) {
            addSeen(got, method, method.toString());
        }
        Collections.sort(due);
        Collections.sort(got);
        Due.is("the face", String.join("\n", got), String.join("\n", due));
        Due.is("NONE", StatuteBench.NONE, -1);
        Due.is("the class is public and final",
            StatuteBench.class.getModifiers(), Modifier.PUBLIC | Modifier.FINAL);
        Due.end();
    }

    private static void addSeen(List<String> got, Member member, String name) {
        if (!Modifier.isPrivate(member.getModifiers()) && !member.isSynthetic()) {
            got.add(name);
        }
    }
}
