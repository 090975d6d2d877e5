import java.lang.reflect.Method;
import java.lang.reflect.Modifier;
import java.util.ArrayList;
import java.util.Comparator;
import java.util.List;
import java.util.Random;

/** No call throws, whatever numbers it is given, in whatever state; what the machine throws ends this test. */
public final class WildTest {
    private static final int[] EDGES = {Integer.MIN_VALUE, Integer.MIN_VALUE + 1, -65536, -1000001, -41, -1, 0, 1, 2, 3,
        4, 5, 6, 7, 8, 12, 13, 14, 15, 24, 25, 31, 32, 40, 41, 60, 61, 63, 64, 255, 256, 999, 999999, Integer.MAX_VALUE};

    public static void main(String[] args) throws Exception {
        List<Method> face = new ArrayList<>();
        for (Method m : LentGrannies.class.getDeclaredMethods()) {
            if (Modifier.isPublic(m.getModifiers())) {
                face.add(m);
            }
        }
        face.sort(Comparator.comparing(Method::getName));
        Random random = new Random(5);
        for (int run = 0; run < 1000; run++) {
            LentGrannies x = new LentGrannies();
            if (run % 5 > 0) {
                Check.tell(x, run % 2 == 0 ? "l9,6;c60,20;o9,0,4;" : "l1,2;c5,5;c6,6;c7,7;s1,0,1;t2,1,2;w3,2,3;n4,0,4;");
            }
            for (int call = 0; call < 400; call++) {
                Method m = face.get(random.nextInt(face.size()));
                Object[] numbers = new Object[m.getParameterCount()];
                for (int i = 0; i < numbers.length; i++) {
                    numbers[i] = random.nextInt(6) == 0 ? random.nextInt() : EDGES[random.nextInt(EDGES.length)];
                }
                m.invoke(x, numbers);
            }
        }
        new Check("WildTest").end();
    }
}
