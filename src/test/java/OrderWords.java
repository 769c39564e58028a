import java.util.HashSet;
import java.util.Set;

/** Every order that there is, spelled out, and every beginning of one: what an order text may hold, without a reader. */
final class OrderWords {
    static final Set<String> ORDERS = new HashSet<>();
    static final Set<String> BEGINNINGS = new HashSet<>();

    static {
        for (int height = 50; height <= 3000; height++) {
            for (int thickness = 1; thickness <= 100; thickness++) {
                ORDERS.add("c" + height + "*" + thickness);
            }
        }
        for (int slope = 0; slope <= 30; slope++) {
            for (String light : new String[] {"a", "b", "a-", "b-"}) {
                ORDERS.add(light + slope);
            }
        }
        for (int layer = 0; layer <= 5; layer++) {
            ORDERS.add("x" + layer);
        }
        ORDERS.add("n");
        for (String order : ORDERS) {
            for (int length = 0; length <= order.length(); length++) {
                BEGINNINGS.add(order.substring(0, length));
            }
        }
    }

    private OrderWords() {
    }

    static int firstError(String text) {
        String order = "";
        for (int i = 0; i < text.length(); i++) {
            char sign = text.charAt(i);
            if (sign == ';' && ORDERS.contains(order)) {
                order = "";
            } else if (BEGINNINGS.contains(order + sign)) {
                order += sign;
            } else {
                return i;
            }
        }
        return text.length();
    }

    static boolean isComplete(String text) {
        String last = text.substring(text.lastIndexOf(';') + 1);
        return firstError(text) == text.length() && ORDERS.contains(last);
    }
}
