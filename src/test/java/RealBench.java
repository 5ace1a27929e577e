/**
 * The types 11 .. 24 of the document as real ones, as it tells them. Nothing else may be nested in here, for then the
 * class objects would tell of it.
 */
public final class RealBench {
    private final Object local;
    private final Object task;

    RealBench() {
        Object[] things = thingsOfMethod();
        local = things[0];
        task = things[1];
    }

    interface Mark {
    }

    sealed interface Shape permits Circle, Square {
    }

    record Circle(int part) implements Shape {
    }

    static final class Square implements Shape, Mark {
    }

    enum Color {
        RED,
        GREEN {
            @Override
            int light() {
                return 12;
            }
        };

        int light() {
            return 1;
        }
    }

    private class Inner {
        protected class Deep {
        }
    }

    @interface Note {
    }

    abstract static class Box<T> implements Comparable<T> {
    }

    static class Tall extends Box<String> {
        @Override
        public int compareTo(String other) {
            return 0;
        }
    }

    private static Object[] thingsOfMethod() {
        class Local extends Tall implements Mark {
        }
        Runnable task = new Runnable() {
            @Override
            public void run() {
            }
        };
        return new Object[] {new Local(), task};
    }

    /** The classes 11 .. 24. */
    Class<?>[] classes() {
        return new Class<?>[] {
            RealBench.class, Mark.class, Shape.class, Circle.class, Square.class, Color.class, Color.GREEN.getClass(),
            Inner.class, Inner.Deep.class, Note.class, Box.class, Tall.class, local.getClass(), task.getClass()
        };
    }

    /** A thing of a type that is no array; null if there are none. */
    Object thing(int t) {
        switch (t) {
            case 9:
                return new Object();
            case 11:
                return this;
            case 14:
                return new Circle(114);
            case 15:
                return new Square();
            case 16:
                return Color.RED;
            case 17:
                return Color.GREEN;
            case 18:
                return new Inner();
            case 19:
                return new Inner().new Deep();
            case 22:
                return new Tall();
            case 23:
                return local;
            case 24:
                return task;
            default:
                return null;
        }
    }
}
