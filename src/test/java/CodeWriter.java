import java.util.ArrayList;
import java.util.List;
import java.util.Random;

/** Writes code that nobody thought of, and that is right (or nearly) by the Model. */
final class CodeWriter {
    private final Random dice;
    private final Model model;

    CodeWriter(Random dice, Model model) {
        this.dice = dice;
        this.model = model;
    }

    /** Tries instructions, and keeps those that leave the code right but for its end. */
    List<int[]> write(Model.Member m, int wish, boolean spoils) {
        Model.Member trial = new Model.Member(m.owner(), false, m.name(), m.shape(), m.flags(), m.locals(), new ArrayList<>());
        for (int tries = 0; tries < 150 && trial.code().size() < wish; tries++) {
            if (dice.nextInt(25) == 0) {
                offerCall(trial);
            } else {
                offer(trial, anyOp(), anyA(trial));
            }
        }
        for (int pops = 0; pops < 9; pops++) {
            offer(trial, Ops.STORE, dice.nextInt(8));
            offer(trial, dice.nextBoolean() ? Ops.OUT : Ops.SAY, 0);
        }
        for (int pops = 0; pops < 9 && offer(trial, Ops.POP, 0); pops++) {
            continue;
        }
        finish(trial);
        turnJumps(trial);
        if (spoils && dice.nextInt(3) == 0) {
            int at = dice.nextInt(trial.code().size());
            trial.code().set(at, new int[] {dice.nextInt(24), dice.nextInt(12) - 2});
        }
        return trial.code();
    }

    private void finish(Model.Member trial) {
        if (dice.nextInt(12) == 0 && offer(trial, Ops.GOTO, 0)) {
            return;
        }
        if (trial.shape() >> 5 == 1) {
            offer(trial, Ops.NULL, 0);
        } else {
            for (int i = 0; i < 8; i++) {
                if (model.local(trial, i) == 'n') {
                    offer(trial, Ops.LOAD, i);
                    break;
                }
            }
        }
        offer(trial, Ops.RET, 0);
    }

    /** A call with all that it takes, which is too much for dice alone. */
    private void offerCall(Model.Member trial) {
        List<Model.Constant> pool = model.pools.get(trial.owner());
        int a = pool.isEmpty() ? 0 : dice.nextInt(pool.size());
        if (pool.isEmpty() || pool.get(a).sort() != 4) {
            return;
        }
        boolean isVirtual = dice.nextInt(3) > 0;
        int shape = (int) (pool.get(a).value() >> 16);
        if (isVirtual) {
            offerOne(trial, 1);
        }
        for (int i = 0; i < (shape & 3); i++) {
            offerOne(trial, shape >> 2 + i & 1);
        }
        offer(trial, isVirtual ? Ops.VIRTUAL : Ops.STATIC, a);
    }

    private void offerOne(Model.Member trial, int kind) {
        if (kind == 1) {
            boolean isNull = dice.nextInt(5) == 0;
            offer(trial, isNull ? Ops.NULL : Ops.NEW, dice.nextInt(model.parents.size()));
            return;
        }
        int first = dice.nextInt(8);
        for (int i = first; i < first + 8; i++) {
            if (model.local(trial, i % 8) == 'n') {
                offer(trial, Ops.LOAD, i % 8);
                return;
            }
        }
    }

    private int anyOp() {
        if (dice.nextInt(10) < 3) {
            return dice.nextInt(2) == 0 ? Ops.OUT : Ops.SAY;
        }
        return dice.nextInt(24);
    }

    private int anyA(Model.Member trial) {
        return dice.nextInt(4) == 0 ? dice.nextInt(trial.code().size() + 4) : dice.nextInt(18);
    }

    private boolean offer(Model.Member trial, int op, int a) {
        trial.code().add(new int[] {op, a});
        int wrong = model.wrong(trial);
        boolean fits = wrong == -1 || wrong == trial.code().size();
        if (!fits) {
            trial.code().remove(trial.code().size() - 1);
        }
        return fits;
    }

    /** Jumps were written when nothing stood behind them: some of them go on there now. */
    private void turnJumps(Model.Member trial) {
        for (int[] ins : trial.code()) {
            if (ins[0] != Ops.GOTO && ins[0] != Ops.ZERO) {
                continue;
            }
            int before = ins[1];
            ins[1] = dice.nextInt(trial.code().size());
            if (model.wrong(trial) != -1) {
                ins[1] = before;
            }
        }
    }
}
