import java.util.ArrayList;
import java.util.List;
import java.util.NoSuchElementException;

/**
 * All that an object tells, asked call by call: two that stand alike tell alike. Undoing and telling the tape come
 * last, as they change it. Nets of up to 4 JOINTS and 5 EDGES take some 300 calls, so the object's 512 are enough.
 */
final class Picture {
    private final RingWaters x;
    private final List<String> told = new ArrayList<>();

    private Picture(RingWaters x) {
        this.x = x;
    }

    /** Whole: what the latest call left in trouble() and where() is looked at, too. */
    static List<String> whole(RingWaters x) {
        Picture p = new Picture(x);
        p.add("trouble", x.trouble());
        p.add("where", x.where());
        p.look();
        p.lookAtTape();
        p.undoAll();
        p.tellTape();
        return p.told;
    }

    /** What stays if a call was refused by 1, 2, 5: all but trouble(), where(). */
    static List<String> butTrouble(RingWaters x) {
        List<String> all = whole(x);
        return all.subList(2, all.size());
    }

    /** What stays if a TEXT was refused by 4: all but trouble(), where(), THE TAPE, fault(). */
    static List<String> butTapeAndFault(RingWaters x) {
        Picture p = new Picture(x);
        p.lookAtNet();
        p.undoAll();
        return p.told;
    }

    private void add(String what, long answer) {
        told.add(what + " " + answer);
    }

    private void look() {
        add("fault", x.fault());
        add("size", x.size());
        lookAtNet();
    }

    private void lookAtNet() {
        for (int what = 0; what <= 10; what++) {
            add("about " + what, x.about(what));
        }
        int joints = x.about(0);
        int edges = x.about(1);
        int rings = x.about(2);
        for (int e = 0; e < edges; e++) {
            for (int what = 0; what <= 7; what++) {
                add("edge " + e + " " + what, x.edge(e, what));
            }
            add("flow " + e, x.flow(e));
            add("loss " + e, x.loss(e));
            add("early " + e, x.early(e, 1));
            add("lossAt " + e, x.lossAt(e, 11, 0));
        }
        for (int j = 0; j < joints; j++) {
            for (int what = 0; what <= 3; what++) {
                add("joint " + j + " " + what, x.joint(j, what));
            }
            add("head " + j, x.head(j));
            add("pressure " + j, x.pressure(j));
            add("balance " + j, x.balance(j));
            add("behind " + j, x.behind(j));
            add("off " + j, x.off(j, 3));
        }
        for (int k = 0; k < rings; k++) {
            add("ring " + k, x.ring(k, 1));
            add("sum " + k, x.sum(k, 0));
        }
        for (int what = 0; what <= 2; what++) {
            add("leak " + what, x.leak(what));
        }
        add("weakest", x.weakest());
        add("gap", x.gap(1));
        add("work", x.work());
        add("scaled", x.scaled(150));
        add("widened", x.widened());
        add("vital", x.vital());
    }

    private void lookAtTape() {
        for (int n = 0; n <= x.size() + 1; n++) {
            try {
                add("named " + n, x.named(n));
            } catch (NoSuchElementException none) {
                told.add("named " + n + " none");
            }
        }
    }

    private void undoAll() {
        for (int i = 0; i <= 12; i++) {
            add("undo", x.undo());
            add("what the well gives", x.about(6));
            add("weakest", x.weakest());
            add("head of the well", x.head(0));
            add("widened", x.widened());
        }
    }

    private void tellTape() {
        add("text", x.text(x.size()));
        add("fault", x.fault());
        add("joints", x.about(0));
    }
}
