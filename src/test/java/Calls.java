import java.util.ArrayList;
import java.util.HashMap;
import java.util.LinkedHashMap;
import java.util.LinkedHashSet;
import java.util.List;
import java.util.Map;
import java.util.Set;
import javax.lang.model.element.Element;
import javax.lang.model.element.ElementKind;
import javax.lang.model.element.ExecutableElement;
import javax.lang.model.element.Modifier;
import javax.lang.model.element.TypeElement;
import javax.lang.model.type.DeclaredType;
import javax.lang.model.type.TypeKind;
import javax.lang.model.type.TypeMirror;

/**
 * Which methods of a source call which, and how deep that goes. An object stays of its class as its methods call one
 * another, so each method is walked once for each class whose objects it may be a method of.
 */
final class Calls {
    private static final class Site {
        final ExecutableElement called;
        final boolean isSuper;
        /** The type of what is before the dot; null where a method is called on the same object. */
        final TypeMirror of;

        Site(ExecutableElement called, boolean isSuper, TypeMirror of) {
            this.called = called;
            this.isSuper = isSuper;
            this.of = of;
        }
    }

    private final List<TypeElement> classes = new ArrayList<>();
    private final Map<ExecutableElement, List<Site>> sites = new LinkedHashMap<>();
    private final Map<String, List<String>> longest = new HashMap<>();
    private final Set<String> open = new LinkedHashSet<>();
    private final Set<String> circles = new LinkedHashSet<>();
    private List<String> deepest = List.of();

    void add(TypeElement c) {
        classes.add(c);
    }

    /** A call from a field's initialiser has no caller: it is a constructor's. */
    void add(ExecutableElement caller, ExecutableElement called, boolean isSuper, TypeMirror of) {
        if (caller != null) {
            sites.computeIfAbsent(caller, c -> new ArrayList<>()).add(new Site(called, isSuper, of));
        }
    }

    void walk() {
        for (ExecutableElement caller : new ArrayList<>(sites.keySet())) {
            for (TypeElement c : classes) {
                if (isUnder(c, (TypeElement) caller.getEnclosingElement())) {
                    List<String> chain = chain(caller, c);
                    deepest = chain.size() > deepest.size() ? chain : deepest;
                }
            }
        }
    }

    int deepest() {
        return deepest.size();
    }

    List<String> deepestChain() {
        return deepest;
    }

    Set<String> circles() {
        return circles;
    }

    /** The longest row of calls that begins with a method of an object of a class. */
    private List<String> chain(ExecutableElement method, TypeElement of) {
        String key = method.getEnclosingElement().getSimpleName() + "." + method.getSimpleName() + " of a " + of.getSimpleName();
        if (longest.containsKey(key)) {
            return longest.get(key);
        }
        if (!open.add(key)) {
            circles.add(key);
            return List.of();
        }
        List<String> best = List.of();
        for (Site site : sites.getOrDefault(method, List.of())) {
            for (TypeElement c : classesOf(site, of)) {
                List<String> further = chain(bodyOf(site, c), c);
                best = further.size() > best.size() ? further : best;
            }
        }
        open.remove(key);
        List<String> whole = new ArrayList<>();
        whole.add(key);
        whole.addAll(best);
        longest.put(key, whole);
        return whole;
    }

    private List<TypeElement> classesOf(Site site, TypeElement current) {
        TypeElement owner = (TypeElement) site.called.getEnclosingElement();
        if (site.called.getModifiers().contains(Modifier.STATIC)) {
            return List.of(owner);
        }
        boolean sameObject = site.isSuper || site.of == null && isUnder(current, owner);
        if (sameObject) {
            return List.of(current);
        }
        Element named = site.of instanceof DeclaredType ? ((DeclaredType) site.of).asElement() : owner;
        List<TypeElement> under = new ArrayList<>();
        for (TypeElement c : classes) {
            boolean isMade = site.called.getKind() == ElementKind.CONSTRUCTOR;
            if (isMade ? c.equals(owner) : isUnder(c, (TypeElement) named)) {
                under.add(c);
            }
        }
        return under;
    }

    private static ExecutableElement bodyOf(Site site, TypeElement c) {
        boolean fixed = site.isSuper || site.called.getKind() == ElementKind.CONSTRUCTOR
            || site.called.getModifiers().contains(Modifier.STATIC);
        TypeElement at = fixed ? null : c;
        while (at != null) {
            for (Element e : at.getEnclosedElements()) {
                boolean sameName = e.getKind() == ElementKind.METHOD && e.getSimpleName().equals(site.called.getSimpleName());
                if (sameName && ((ExecutableElement) e).getParameters().size() == site.called.getParameters().size()) {
                    return (ExecutableElement) e;
                }
            }
            at = above(at);
        }
        return site.called;
    }

    private static TypeElement above(TypeElement c) {
        TypeMirror above = c.getSuperclass();
        return above.getKind() == TypeKind.DECLARED ? (TypeElement) ((DeclaredType) above).asElement() : null;
    }

    private static boolean isUnder(TypeElement c, TypeElement other) {
        for (TypeElement at = c; at != null; at = above(at)) {
            if (at.equals(other)) {
                return true;
            }
        }
        return false;
    }
}
