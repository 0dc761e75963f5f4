import java.lang.reflect.Method;
import java.lang.reflect.Modifier;
import java.util.HashMap;
import java.util.Map;

/** Calls by name, so that the same ones can be made of ArsenalRow and of PlainArsenal. */
interface Calls {
  int call(String name, int... a);

  static Calls of(ArsenalRow x) {
    return new OfRow(x);
  }

  final class OfRow implements Calls {
    private static final Map<String, Method> METHODS = new HashMap<>();
    private final ArsenalRow row;

    static {
      for (Method m : ArsenalRow.class.getDeclaredMethods()) {
        if (Modifier.isPublic(m.getModifiers())) METHODS.put(m.getName(), m);
      }
    }

    private OfRow(ArsenalRow row) {
      this.row = row;
    }

    @Override
    public int call(String name, int... a) {
      Object[] boxed = new Object[a.length];
      for (int k = 0; k < a.length; k++) boxed[k] = a[k];
      try {
        return (Integer) METHODS.get(name).invoke(row, boxed);
      } catch (ReflectiveOperationException e) {
        throw new IllegalStateException(name, e);
      }
    }
  }
}
