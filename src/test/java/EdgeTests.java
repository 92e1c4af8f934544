import java.lang.reflect.Method;
import java.util.ArrayList;
import java.util.List;

/** Every call with arguments at and far beyond the edges, in several states, held against the plain model. */
public final class EdgeTests {
    private static final int[] EDGES = {Integer.MIN_VALUE, -4, -3, -2, -1, 0, 1, 2, 3, 4, 5, 7, 8, 9, 10, 11, 17, 18, 60, 61,
        Integer.MAX_VALUE};
    private static final int[] NEAR = {Integer.MIN_VALUE, -3, -2, -1, 0, 1, 2, 3, 60, 61, Integer.MAX_VALUE};
    private static final int STATES = 6;

    private EdgeTests() {
    }

    public static void main(String[] args) throws ReflectiveOperationException {
        for (Method method : HillBends.class.getDeclaredMethods()) {
            boolean isFace = java.lang.reflect.Modifier.isPublic(method.getModifiers());
            if (isFace && method.getParameterCount() <= 3) {
                Method other = HillModel.class.getDeclaredMethod(method.getName(), method.getParameterTypes());
                for (int state = 0; state < STATES; state++) {
                    sweep(method, other, state);
                }
            }
        }
        Checks.close("EdgeTests");
    }

    private static void sweep(Method method, Method other, int state) throws ReflectiveOperationException {
        for (Object[] arguments : rows(method.getParameterCount())) {
            HillBends x = new HillBends();
            HillModel model = new HillModel();
            prepare(x, model, state);
            int got = (Integer) method.invoke(x, arguments);
            int due = (Integer) other.invoke(model, arguments);
            String what = "state " + state + " " + method.getName() + " " + java.util.Arrays.toString(arguments);
            Checks.is(what, got, due);
            Checks.is("then, " + what, sum(x), sum(model));
        }
    }

    private static List<Object[]> rows(int length) {
        List<Object[]> rows = new ArrayList<>();
        rows.add(new Object[0]);
        for (int i = 0; i < length; i++) {
            List<Object[]> longer = new ArrayList<>();
            for (Object[] row : rows) {
                for (int edge : length == 3 ? NEAR : EDGES) {
                    Object[] more = java.util.Arrays.copyOf(row, i + 1);
                    more[i] = edge;
                    longer.add(more);
                }
            }
            rows = longer;
        }
        return rows;
    }

    private static void prepare(HillBends x, HillModel model, int state) {
        if (state == 0) {
            return;
        }
        String[] hills = {"hill 9", Checks.SMALL, Checks.SMALL, "hill 40;sort 1 1 1;sort 2 5 2;bend 0 1;bend 1 0;pilgrim 9;pilgrim 8;"
            + "pilgrim 7;pilgrim 6;has 0 0 3;has 0 1 1;has 1 0 3;has 3 1 2;heap 0 0 1;heap 1 1 2", "hill 5;sort 1 0 1;pilgrim 99"};
        tell(x, model, hills[state - 1]);
        x.hill();
        model.hill();
        for (String rule : new String[] {"ask 1", "ask ones - twos", "ask 1 if night % 3 = bend"}) {
            tell(x, model, rule);
            x.rule();
            model.rule();
        }
        if (state >= 3) {
            change(x, model);
        }
    }

    private static void change(HillBends x, HillModel model) {
        x.climb(0);
        model.climb(0);
        x.buy(1, 0);
        model.buy(1, 0);
        x.image(1);
        model.image(1);
        x.force(1);
        model.force(1);
        x.night();
        model.night();
        x.leaves(0, 1);
        model.leaves(0, 1);
        x.note(2, 0, 0);
        model.note(2, 0, 0);
        x.seed(12);
        model.seed(12);
        tell(x, model, "hill");
    }

    private static void tell(HillBends x, HillModel model, String text) {
        x.end(0);
        model.end(0);
        for (int from = 0; from < text.length(); from += 20) {
            int[] n = new int[5];
            for (int i = 0; i < 20; i++) {
                n[i / 4] = n[i / 4] << 8 | (from + i < text.length() ? text.charAt(from + i) : 0);
            }
            x.feed(n[0], n[1], n[2], n[3], n[4]);
            model.feed(n);
        }
        x.end(text.length());
        model.end(text.length());
    }

    private static int sum(HillBends x) {
        int sum = 0;
        for (int i = 0; i < 14; i++) {
            sum = sum * 31 + x.count(i);
        }
        for (int i = 0; i < 40; i++) {
            sum = sum * 31 + x.pilgrim(i / 10, i % 10);
        }
        for (int i = 0; i < 64; i++) {
            sum = sum * 31 + x.bend(i / 8, i % 8);
        }
        return sum * 31 + x.gifts(-1) * 7 + x.ruled(0) * 3 + x.undo();
    }

    private static int sum(HillModel x) {
        int sum = 0;
        for (int i = 0; i < 14; i++) {
            sum = sum * 31 + x.count(i);
        }
        for (int i = 0; i < 40; i++) {
            sum = sum * 31 + x.pilgrim(i / 10, i % 10);
        }
        for (int i = 0; i < 64; i++) {
            sum = sum * 31 + x.bend(i / 8, i % 8);
        }
        return sum * 31 + x.gifts(-1) * 7 + x.ruled(0) * 3 + x.undo();
    }
}
