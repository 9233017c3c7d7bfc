import java.util.List;

/** The kinds of sounds as classes, so that the machine itself picks the bodies of an ask. */
interface ModelSound {
    int number();

    Model.Sound sound();

    List<Integer> trace();

    default int size() {
        trace().add(10);
        return sound().loud();
    }

    default int mark() {
        trace().add(20);
        return number();
    }

    class Voice implements ModelSound {
        private final int number;
        private final Model.Sound sound;
        private final List<Integer> trace;

        Voice(int number, Model.Sound sound, List<Integer> trace) {
            this.number = number;
            this.sound = sound;
            this.trace = trace;
        }

        @Override public int number() {
            return number;
        }

        @Override public Model.Sound sound() {
            return sound;
        }

        @Override public List<Integer> trace() {
            return trace;
        }

        @Override public int size() {
            trace.add(11);
            int lent = ModelSound.super.size();
            return lent + mark();
        }

        @Override public int mark() {
            trace.add(21);
            return ModelSound.super.mark() + sound.cell();
        }
    }

    final class Band extends Voice {
        Band(int number, Model.Sound sound, List<Integer> trace) {
            super(number, sound, trace);
        }

        @Override public int size() {
            trace().add(12);
            return 0 - super.size();
        }

        @Override public int mark() {
            trace().add(24);
            return 2 * super.mark();
        }
    }

    final class Hare extends Voice {
        Hare(int number, Model.Sound sound, List<Integer> trace) {
            super(number, sound, trace);
        }

        @Override public int mark() {
            trace().add(22);
            return super.mark() - 1000;
        }
    }

    class Dutch implements ModelSound {
        private final int number;
        private final Model.Sound sound;
        private final List<Integer> trace;

        Dutch(int number, Model.Sound sound, List<Integer> trace) {
            this.number = number;
            this.sound = sound;
            this.trace = trace;
        }

        @Override public int number() {
            return number;
        }

        @Override public Model.Sound sound() {
            return sound;
        }

        @Override public List<Integer> trace() {
            return trace;
        }

        @Override public int size() {
            trace.add(13);
            return ModelSound.super.size() - 100;
        }

        @Override public int mark() {
            trace.add(23);
            int lent = ModelSound.super.mark();
            return lent - size();
        }
    }

    final class Sea extends Dutch {
        Sea(int number, Model.Sound sound, List<Integer> trace) {
            super(number, sound, trace);
        }

        @Override public int size() {
            trace().add(14);
            return 2 * super.size();
        }
    }
}
