import java.util.ArrayList;
import java.util.Collections;
import java.util.List;
import java.util.Random;

/** Texts made by chance from a seed: whole nets, and nets with something spoilt in them. */
final class Nets {
    private static final String[] NAMES = {"w", "a", "b", "c", "dd", "e", "fgh", "tankxx", "i"};
    private final Random chance;

    Nets(Random chance) {
        this.chance = chance;
    }

    String net() {
        while (true) {
            String text = anyNet();
            if (text.length() <= 600) {
                return text;
            }
        }
    }

    private String anyNet() {
        int joints = 1 + chance.nextInt(8);
        int drawMost = chance.nextInt(3) == 0 ? 60 : 1 + chance.nextInt(20);
        List<String> lines = new ArrayList<>();
        for (int j = 1; j <= joints; j++) {
            lines.add("joint " + NAMES[j] + " " + chance.nextInt(drawMost + 1) + " at " + chance.nextInt(61));
        }
        int pumpsIn = 2 + chance.nextInt(9);
        int checksIn = 1 + chance.nextInt(6);
        List<String> edges = new ArrayList<>();
        for (int j = 1; j <= joints; j++) {
            edges.add(edge(j, chance.nextInt(j), pumpsIn, checksIn));
        }
        int more = chance.nextInt(15 - joints);
        for (int i = 0; i < more; i++) {
            int a = chance.nextInt(joints + 1);
            int b = (a + 1 + chance.nextInt(joints)) % (joints + 1);
            edges.add(edge(a, b, pumpsIn, checksIn));
        }
        Collections.shuffle(edges, chance);
        lines.addAll(edges);
        int well = chance.nextInt(2) == 0 ? chance.nextInt(1000) : chance.nextInt(100);
        return "well w " + well + ";" + String.join(";", lines);
    }

    private String edge(int a, int b, int pumpsIn, int checksIn) {
        boolean turned = chance.nextBoolean();
        String ends = " " + NAMES[turned ? a : b] + " " + NAMES[turned ? b : a] + " ";
        if (chance.nextInt(pumpsIn) == 0) {
            return "pump" + ends + lifts();
        }
        String kind = chance.nextInt(checksIn) == 0 ? "check" : "pipe";
        return kind + ends + (1 + chance.nextInt(chance.nextInt(3) == 0 ? 20 : 4));
    }

    private String lifts() {
        StringBuilder lifts = new StringBuilder();
        int most = chance.nextInt(2) == 0 ? chance.nextInt(301) : chance.nextInt(40);
        int count = 1 + chance.nextInt(6);
        for (int k = 0; k < count; k++) {
            lifts.append(k == 0 ? "" : ",").append(most);
            most = chance.nextInt(most + 1);
        }
        return lifts.toString();
    }

    /** A net in which some bytes, or whole tokens, are others. */
    String spoilt() {
        StringBuilder text = new StringBuilder(net());
        int times = 1 + chance.nextInt(2);
        for (int i = 0; i < times; i++) {
            int at = chance.nextInt(text.length());
            switch (chance.nextInt(6)) {
                case 0:
                    text.setCharAt(at, (char) chance.nextInt(256));
                    break;
                case 1:
                    text.insert(at, " ;,0123wabz".charAt(chance.nextInt(11)));
                    break;
                case 2:
                    text.deleteCharAt(at);
                    break;
                case 3:
                    text.setLength(at + 1);
                    break;
                default:
                    otherToken(text);
            }
        }
        if (text.length() > 600) {
            text.setLength(600);
        }
        return text.toString();
    }

    private void otherToken(StringBuilder text) {
        String[] tokens = text.toString().split("(?<=[ ;,])|(?=[ ;,])");
        int at = chance.nextInt(tokens.length);
        String[] others = {"well", "joint", "at", "pipe", "check", "pump", "w", "a", "zz", "0", "1", "20", "21", "60",
            "61", "300", "301", "999", "1000", "toolong", "longer", ";", ",", ",5", ",5,4,3,2,1,0"};
        tokens[at] = others[chance.nextInt(others.length)];
        text.setLength(0);
        text.append(String.join("", tokens));
    }
}
