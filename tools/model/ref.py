# independent reference of the document
import itertools, functools
ADD,DROP,RENAME,SPLIT,JOIN,MOVE,LIFT,RETYPE,WRAP,UNWRAP,RELAX,REQUIRE=range(12)
NONE=-1
class IOOBE(Exception): pass
class IAE(Exception): pass
class ISE(Exception): pass

# ---------------- Earley viability
def cls(s): return ('C',frozenset(s))
LOW='abcdefghijklmnopqrstuvwxyz'; UP=LOW.upper(); DIG='0123456789'
def seq(s): return tuple(cls(c) for c in s)
@functools.lru_cache(None)
def prods(nt):
    k=nt[0]
    if k=='num': # number / INT
        r=[(cls('0'),)]
        for n in range(1,5):
            body=(cls('123456789'),)+(cls(DIG),)*(n-1)
            r.append(body); r.append((cls('-'),)+body)
        return r
    if k=='name': return [ (cls(LOW),)*n for n in range(1,5)]
    if k=='tag': return [ (cls(UP),)+(cls(LOW),)*n for n in range(0,4)]
    if k=='lit': return [ (cls("'"),)+(cls(LOW),)*n+(cls("'"),) for n in range(0,9)]
    d=nt[1] if len(nt)>1 else 0
    if k=='V':
        r=[(('num',),),(('lit',),)]
        if d<12:
            r+=[(cls('['),('VL',d+1),cls(']')),(cls('['),cls(']')),(cls('{'),('VR',d+1),cls('}')),(cls('{'),cls('}')),
                (cls('<'),('VM',d+1),cls('>')),(cls('<'),cls('>')),(('tag',),cls('('),('V',d+1),cls(')'))]
        return r
    if k=='VL': return [(('V',d),),(('V',d),cls(','),('VL',d))]
    if k=='VR':
        f=(('name',),cls(':'),('V',d)); return [f,f+(cls(','),('VR',d))]
    if k=='VM':
        f=(('lit',),cls(':'),('V',d)); return [f,f+(cls(','),('VM',d))]
    if k=='S': return [(('P',d),),(('P',d),cls('|'),('S',d))]
    if k=='P':
        r=[seq('none'),seq('num'),seq('text'),(cls('@'),('tag',))]
        if d<12:
            r+=[seq('num(')+(('num',),)+seq('..')+(('num',),cls(')')), seq('text(')+(('IT',),cls(')')),
               (cls('['),('S',d+1),cls(']')),(cls('['),('S',d+1),cls(';'),('num',))+seq('..')+(('num',),cls(']')),
               seq('{}'),(cls('{'),('FS',d+1),cls('}')),(('tag',),cls('('),('S',d+1),cls(')')),(cls('<'),('S',d+1),cls('>'))]
        return r
    if k=='IT':
        r=[]
        for it in [(cls(LOW+'.'),),(cls(LOW+'.'),cls('*?'))]:
            r+=[it,it+(('IT',),)]
        return r
    if k=='FS': return [(('F',d),),(('F',d),cls(','),('FS',d))]
    if k=='F': return [(('name',),cls(':'),('S',d)),(('name',),cls('?'),cls(':'),('S',d))]
    if k=='SC':
        D=(('tag',),cls('='),('S',0),cls(';')); return [D,D+(('SC',),)]
    if k=='DEF': return [(cls('='),('V',0)),(cls('='),cls('('),('SUM',1),cls(')'))]
    if k=='SUM': return [(('PR',d),),(('PR',d),cls('+-'),('SUM',d))]
    if k=='PR': return [(('FA',d),),(('FA',d),cls('*'),('PR',d))]
    if k=='FA':
        r=[(('num',),),(('name',),)]
        if d<12: r.append((cls('('),('SUM',d+1),cls(')')))
        return r
    if k=='CH':
        kind=nt[1]; N=('name',); c=cls(',')
        if kind==ADD: return [(('AF',),)]
        if kind in(DROP,REQUIRE): return [(N,('DEF',))]
        if kind in(RENAME,MOVE,LIFT): return [(N,c,N)]
        if kind in(SPLIT,JOIN): return [(N,c,N,c,N)]
        if kind==RETYPE: return [(N,cls(':'),('S',0),('DEF',))]
        if kind==WRAP: return [(N,c,('tag',))]
        return [(N,)]
    if k=='AF':
        f=(('F',0),('DEF',)); return [f,f+(cls(','),('AF',))]
    if k=='PA': return [(('ST',),),(('ST',),('PA',))]
    if k=='ST': return [(cls('.'),('name',)),seq('[]'),seq('<>'),(cls('!'),('tag',))]
    raise Exception(nt)
def viable(start,text):
    """fault by the grammar alone, or None"""
    # Earley; items (nt, rhs, dot, origin)
    chart=[set()]
    def close(i):
        work=list(chart[i])
        nullable=set()
        while work:
            nt,rhs,dot,o=work.pop()
            if dot<len(rhs):
                s=rhs[dot]
                if s[0]!='C':
                    for r in prods(s):
                        it=(s,r,0,i)
                        if it not in chart[i]: chart[i].add(it); work.append(it)
            else:
                for p in list(chart[o]):
                    if p[2]<len(p[1]) and p[1][p[2]]==nt:
                        it=(p[0],p[1],p[2]+1,p[3])
                        if it not in chart[i]: chart[i].add(it); work.append(it)
    for r in prods(start): chart[0].add((start,r,0,0))
    close(0)
    for i,c in enumerate(text):
        nxt=set()
        for nt,rhs,dot,o in chart[i]:
            if dot<len(rhs) and rhs[dot][0]=='C' and c in rhs[dot][1]: nxt.add((nt,rhs,dot+1,o))
        if not nxt: return i
        chart.append(nxt); close(i+1)
    if any(nt==start and dot==len(rhs) and o==0 for nt,rhs,dot,o in chart[len(text)]): return None
    return len(text)

# ---------------- values
KO={'n':0,'t':1,'l':2,'r':3,'g':4,'m':5}
@functools.lru_cache(100000)
def nodes(v):
    k=v[0]
    if k in 'nt': return 1
    if k=='l': return 1+sum(nodes(x) for x in v[1])
    if k in 'rm': return 1+sum(nodes(x) for _,x in v[1])
    return 1+nodes(v[2])
@functools.lru_cache(100000)
def deep(v):
    k=v[0]
    if k in 'nt': return 0
    ch=v[1] if k=='l' else [x for _,x in v[1]] if k in 'rm' else [v[2]]
    return max([0]+[1+deep(x) for x in ch])
def sk(s): return (len(s),s)
@functools.lru_cache(100000)
def okey(v):
    k=v[0]; n=nodes(v)
    if k=='n': return (n,0,(abs(v[1]),0 if v[1]>=0 else 1))
    if k=='t': return (n,1,sk(v[1]))
    if k=='l': return (n,2,(len(v[1]),)+tuple(okey(x) for x in v[1]))
    if k=='r': return (n,3,(len(v[1]),)+tuple((sk(a),okey(x)) for a,x in v[1]))
    if k=='g': return (n,4,(sk(v[1]),okey(v[2])))
    return (n,5,(len(v[1]),)+tuple((sk(a),okey(x)) for a,x in v[1]))
def show(v):
    k=v[0]
    if k=='n': return str(v[1])
    if k=='t': return "'%s'"%v[1]
    if k=='l': return '['+','.join(show(x) for x in v[1])+']'
    if k=='r': return '{'+','.join(a+':'+show(x) for a,x in v[1])+'}'
    if k=='g': return v[1]+'('+show(v[2])+')'
    return '<'+','.join("'%s':"%a+show(x) for a,x in v[1])+'>'

class P:
    def __init__(s,t): s.t=t; s.i=0; s.odd=False; s.sumops=0
    def pk(s): return s.t[s.i] if s.i<len(s.t) else ''
    def eat(s,c):
        assert s.t[s.i:s.i+len(c)]==c,(s.t,s.i,c); s.i+=len(c)
    def letters(s):
        j=s.i
        while s.pk() and s.pk() in LOW: s.i+=1
        return s.t[j:s.i]
    def tag(s):
        j=s.i; s.i+=1; s.letters(); return s.t[j:s.i]
    def num(s):
        j=s.i
        if s.pk()=='-': s.i+=1
        while s.pk() and s.pk() in DIG: s.i+=1
        return int(s.t[j:s.i])
    def lit(s):
        s.eat("'"); r=s.letters(); s.eat("'"); return r
    def value(s):
        c=s.pk()
        if c=='-' or c in DIG: return ('n',s.num())
        if c=="'": return ('t',s.lit())
        if c=='[':
            s.eat('['); it=[]
            while s.pk()!=']':
                if it: s.eat(',')
                it.append(s.value())
            s.eat(']')
            if len(it)>8: s.odd=True
            return ('l',tuple(it))
        if c in '{<':
            s.eat(c); e='}' if c=='{' else '>'; it=[]
            while s.pk()!=e:
                if it: s.eat(',')
                a=s.letters() if c=='{' else s.lit(); s.eat(':'); it.append((a,s.value()))
            s.eat(e)
            ks=[sk(a) for a,_ in it]
            if len(it)>8 or any(x>=y for x,y in zip(ks,ks[1:])): s.odd=True
            return ('r' if c=='{' else 'm',tuple(it))
        t=s.tag(); s.eat('('); v=s.value(); s.eat(')'); return ('g',t,v)
    def wvalue(s):
        v=s.value()
        if nodes(v)>60 or deep(v)>12: s.odd=True
        return v
    # shapes: list of parts; part tuples
    def shape(s):
        r=[s.part()]
        while s.pk()=='|': s.i+=1; r.append(s.part())
        return tuple(r)
    def part(s):
        t=s.t[s.i:]
        if t.startswith('none'): s.i+=4; return ('none',)
        if t.startswith('num'):
            s.i+=3; lo,hi=-9999,9999
            if s.pk()=='(':
                s.eat('('); lo=s.num(); s.eat('..'); hi=s.num(); s.eat(')')
                if lo>hi: s.odd=True
            return ('num',lo,hi)
        if t.startswith('text'):
            s.i+=4; its=None
            if s.pk()=='(':
                s.eat('('); its=[]
                while s.pk()!=')':
                    c=s.pk(); s.i+=1; m=''
                    if s.pk() and s.pk() in '*?': m=s.pk(); s.i+=1
                    its.append((c,m))
                s.eat(')')
                if len(its)>8: s.odd=True
                fl=[i for i,x in enumerate(its) if x[1]]
                if fl and len(its)-1-fl[0]>2: s.odd=True
                its=tuple(its)
            return ('text',its)
        c=s.pk()
        if c=='@': s.i+=1; return ('@',s.tag())
        if c=='[':
            s.eat('['); sh=s.shape(); lo,hi=0,8
            if s.pk()==';':
                s.eat(';'); lo=s.num(); s.eat('..'); hi=s.num()
                if lo<0 or hi>8 or lo>hi: s.odd=True
            s.eat(']'); return ('list',sh,lo,hi)
        if c=='{':
            s.eat('{'); fs=[]
            while s.pk()!='}':
                if fs: s.eat(',')
                fs.append(s.field())
            s.eat('}'); return ('rec',tuple(sorted(fs,key=lambda f:sk(f[0]))))
        if c=='<':
            s.eat('<'); sh=s.shape(); s.eat('>'); return ('map',sh)
        t=s.tag(); s.eat('('); sh=s.shape(); s.eat(')'); return ('tag',t,sh)
    def field(s):
        n=s.letters(); o=False
        if s.pk()=='?': s.i+=1; o=True
        s.eat(':'); return (n,o,s.shape())
    def default(s):
        s.eat('=')
        if s.pk()=='(':
            s.sumops=0; s.eat('('); e=s.sum(); s.eat(')')
            if s.sumops>4: s.odd=True
            return ('sum',e)
        return ('val',s.wvalue())
    def sum(s):
        e=s.prod()
        while s.pk() and s.pk() in '+-':
            o=s.pk(); s.i+=1; e=(o,e,s.prod())
        return e
    def prod(s):
        e=s.fac()
        while s.pk()=='*': s.i+=1; e=('*',e,s.fac())
        return e
    def fac(s):
        if s.pk()=='(':
            s.eat('('); e=s.sum(); s.eat(')'); return e
        s.sumops+=1
        if s.pk() in LOW: return ('name',s.letters())
        return ('int',s.num())

def parse(start,text,fn):
    f=viable(start,text)
    if f is not None: return f,None
    p=P(text); r=fn(p); assert p.i==len(text)
    if p.odd: return len(text)+1,None
    return None,r

def rng(lo,hi): return '%d..%d'%(lo,hi)
def tpart(p):
    k=p[0]
    if k=='none': return 'none'
    if k=='num': return 'num' if (p[1],p[2])==(-9999,9999) else 'num(%s)'%rng(p[1],p[2])
    if k=='text': return 'text' if p[1] is None else 'text('+''.join(c+m for c,m in p[1])+')'
    if k=='list': return '['+tshape(p[1])+('' if (p[2],p[3])==(0,8) else ';'+rng(p[2],p[3]))+']'
    if k=='rec': return '{'+','.join(n+('?' if o else '')+':'+tshape(s) for n,o,s in p[1])+'}'
    if k=='tag': return p[1]+'('+tshape(p[2])+')'
    if k=='map': return '<'+tshape(p[1])+'>'
    return '@'+p[1]
def tshape(s): return '|'.join(tpart(p) for p in s)
def tschema(d): return ''.join(n+'='+tshape(s)+';' for n,s in d)

def subshapes(p):
    k=p[0]
    if k in('list','map'): return [p[1]]
    if k=='tag': return [p[2]]
    if k=='rec': return [f[2] for f in p[1]]
    return []
def allparts(s):
    for p in s:
        yield p
        for q in subshapes(p): yield from allparts(q)
def maxdepth(text):
    d=m=0
    for c in text:
        if c in '[{<(': d+=1; m=max(m,d)
        if c in ']}>)': d-=1
    return m
def leads(s,D):
    r=[]
    for p in s:
        if p[0]=='@': r+=leads(D[p[1]],D)
        else: r.append(p)
    return r
def sound(defs):
    """schema checks behind the grammar"""
    names=[n for n,_ in defs]
    if len(set(names))!=len(names) or len(defs)>4: return False
    D=dict(defs)
    parts=[p for _,s in defs for p in allparts(s)]
    if len(parts)>24: return False
    for p in parts:
        if p[0]=='@' and p[1] not in D: return False
        if p[0]=='rec':
            if len(p[1])>6 or len(set(f[0] for f in p[1]))!=len(p[1]): return False
    # loops by @ alone
    def loop(n,seen):
        if n in seen: return True
        return any(loop(p[1],seen|{n}) for p in D[n] if p[0]=='@')
    if any(loop(n,frozenset()) for n in D): return False
    # places: identify by path
    places={}
    def walk(path,s):
        places[path]=s
        for i,p in enumerate(s):
            for j,q in enumerate(subshapes(p)): walk(path+((i,j),),q)
    for n,s in defs: walk((n,),s)
    def leadp(path):  # list of (path of shape holding part, index)
        r=[]
        for i,p in enumerate(places[path]):
            if p[0]=='@': r+=leadp((p[1],))
            else: r.append((path,i))
        return r
    doubles=[]
    for path in places:
        lp=leadp(path)
        if len(lp)>6: return False
        cnt={}
        for pa,i in lp:
            p=places[pa][i]
            key=p[0] if p[0] in('list','rec','map') else ('tag',p[1]) if p[0]=='tag' else None
            if key: cnt[key]=cnt.get(key,0)+1
        m=max([0]+list(cnt.values()))
        if m>2: return False
        if m==2: doubles.append(path)
    if len(doubles)>2: return False
    def nxt(path):
        r=set()
        for pa,i in leadp(path):
            for j,_ in enumerate(subshapes(places[pa][i])): r.add(pa+((i,j),))
        return r
    for d in doubles:
        seen=set(); st=[d]
        while st:
            for y in nxt(st.pop()):
                if y not in seen: seen.add(y); st.append(y)
        if d in seen: return False
    return True
def parse_schema(text):
    def fn(p):
        defs=[]
        while p.i<len(p.t):
            n=p.tag(); p.eat('='); s=p.shape(); p.eat(';'); defs.append((n,s))
        return tuple(defs)
    f,d=parse(('SC',),text,fn)
    if f is None and not sound(d): return len(text)+1,None
    return f,d

# ---------------- membership
import re
@functools.lru_cache(100000)
def rx(its): return re.compile(''.join(c+m for c,m in its))
def ofpart(v,p,D):
    k=p[0]
    if k=='num': return v[0]=='n' and p[1]<=v[1]<=p[2]
    if k=='text': return v[0]=='t' and (p[1] is None or rx(p[1]).fullmatch(v[1]) is not None)
    if k=='list': return v[0]=='l' and p[2]<=len(v[1])<=p[3] and all(isof(x,p[1],D) for x in v[1])
    if k=='rec':
        if v[0]!='r': return False
        d=dict(v[1]); fs={f[0]:f for f in p[1]}
        return all(n in fs for n in d) and all((n in d and isof(d[n],f[2],D)) or (n not in d and f[1]) for n,f in fs.items())
    if k=='tag': return v[0]=='g' and v[1]==p[1] and isof(v[2],p[2],D)
    if k=='map': return v[0]=='m' and all(isof(x,p[1],D) for _,x in v[1])
    if k=='@': return isof(v,D[p[1]],D)
    return False
def isof(v,s,D): return any(ofpart(v,p,D) for p in s)

# ---------------- least values: enumeration by nodes, memoized lists of "interesting" values
class Enum:
    """all values of shapes with few nodes, leaves from interesting sets"""
    def __init__(s,Ds,limit=4000):
        nums={0,1,-1}; lets=set('')
        s.limit=limit; s.cut=False
        pats=[]
        for D in Ds:
            for sh in D.values():
                for p in allparts(sh):
                    if p[0]=='num':
                        for x in (p[1],p[2],p[1]-1,p[2]+1):
                            if -9999<=x<=9999: nums.add(x)
                    if p[0]=='text' and p[1]:
                        lets|={c for c,_ in p[1] if c!='.'}
        oth=[c for c in LOW if c not in lets][:1]
        s.nums=sorted(nums,key=lambda n:(abs(n),n<0)); s.lets=sorted(lets|set(oth))
        s.memo={}
    def texts(s,its):
        # texts over lets up to 4
        key=('T',its)
        if key not in s.memo:
            r=[]
            for n in range(0,9):
                if len(s.lets)**n>3000: break
                for t in itertools.product(s.lets,repeat=n):
                    t=''.join(t)
                    if its is None or rx(its).fullmatch(t): r.append(('t',t))
            s.memo[key]=r
        return s.memo[key]
    def shape(s,sh,D,Did,n):
        key=(sh,Did,n)
        if key in s.memo: return s.memo[key]
        r=set()
        for p in leads(sh,D):
            r|=set(s.part(p,D,Did,n))
            if len(r)>s.limit: s.cut=True; break
        r=sorted(r,key=okey)[:s.limit]
        s.memo[key]=r
        return r
    def rows(s,sh,D,Did,n,k):
        if k==0: 
            if n==0: yield ()
            return
        for m in range(1,n-k+2):
            for x in s.shape(sh,D,Did,m):
                for rest in s.rows(sh,D,Did,n-m,k-1): yield (x,)+rest
    def part(s,p,D,Did,n):
        k=p[0]; out=[]
        def add(v):
            out.append(v)
            if len(out)>s.limit: s.cut=True; return True
            return False
        if k=='num' and n==1: return [('n',x) for x in s.nums if p[1]<=x<=p[2]]
        if k=='text' and n==1: return s.texts(p[1])
        if k=='list':
            for c in range(p[2],p[3]+1):
                if c<=n-1:
                    for r in s.rows(p[1],D,Did,n-1,c):
                        if add(('l',r)): return out
        if k=='map':
            for c in range(0,min(8,n-1)+1):
                for r in s.rows(p[1],D,Did,n-1,c):
                    if add(('m',tuple(zip(['','a','b','c','d','e','f','g'],r)))): return out
        if k=='tag' and n>1:
            for x in s.shape(p[2],D,Did,n-1):
                if add(('g',p[1],x)): return out
        if k=='rec':
            def go(i,left):
                if i==len(p[1]):
                    if left==0: yield ()
                    return
                nm,o,sh=p[1][i]
                if o: yield from go(i+1,left)
                for m in range(1,left+1):
                    for x in s.shape(sh,D,Did,m):
                        for r in go(i+1,left-m): yield ((nm,x),)+r
            for r in go(0,n-1):
                if add(('r',r)): return out
        return out
